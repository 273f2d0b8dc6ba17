def gl (x : Nat) : Nat := if x = 0 then 111 else (if x = 1 then 105 else 103)
def wrL : List Nat → (Nat → Nat) → Nat → (Nat → Nat)
  | [], F, _ => F
  | c :: l, F, n => wrL l (va_up F n c) (n + 1)
def lnD (G : Nat → Nat) (d : Nat) : List Nat :=
  gl (G (40 + d)) :: (if G (48 + d) = 1 then 100 else 115) :: (97 + gEnd G d) :: (48 + G (88 + d)) :: 45 :: (48 + G (96 + d)) ::
  ((if G (56 + d) = 0 then [] else [64, 48 + (G (56 + d) - 1)]) ++ (if G (80 + d) = 1 then [43] else (if G (64 + d) = 0 then [] else [33, 48 + G (64 + d)])))
def enH (G : Nat → Nat) (a z : Nat) : List Nat := [97 + G (gEndAt a 0 z), 97 + G (gEndAt a 1 z), 97 + G (gEndAt a 2 z), 97 + G (gEndAt a 3 z)]
def enD (G : Nat → Nat) (a : Nat) : List Nat := enH G a 0 ++ (47 :: enH G a 1)
/-- a byte of an int, the most significant one first -/
def bO (p : Int32) (k : Nat) : Nat := p.toBitVec.toNat / 2 ^ (24 - 8 * k) % 2 ^ 8
def bC (p : Int32) (k : Nat) : Nat := if bO p k = 0 then 0 else (if 32 ≤ bO p k ∧ bO p k ≤ 126 then 1 else 100)
def apI (F : Nat → Nat) (n : Nat) (p : Int32) : Nat → (Nat → Nat) × Nat
  | 0 => (F, n)
  | k + 1 => if bO p k = 0 then apI F n p k else (va_up (apI F n p k).1 (apI F n p k).2 (bO p k), (apI F n p k).2 + 1)
theorem bO_lt (p : Int32) (k : Nat) : bO p k < 256 := Nat.mod_lt _ (by decide)
theorem bO_eq (p : Int32) : ∀ k, k < 4 → (p.toUInt32 >>> ((nI 24 - nI (8 * k)).toUInt32 &&& Int32.toUInt32 31)).toInt32 &&& nI 255 = nI (bO p k) := by
  intro k hk
  rw [pk_and _ 8 (by decide), pk_ushr p _ (24 - 8 * k) (by rcases (show k = 0 ∨ k = 1 ∨ k = 2 ∨ k = 3 by omega) with rfl | rfl | rfl | rfl <;> decide)]
  rfl
theorem nv_bC (p : Int32) (k : Nat) : (if bO p k = 0 then 0 else (if nI 32 ≤ nI (bO p k) ∧ nI (bO p k) ≤ nI 126 then 1 else 100)) = bC p k := by
  have h := bO_lt p k
  unfold bC
  by_cases h0 : bO p k = 0
  · rw [if_pos h0, if_pos h0]
  · rw [if_neg h0, if_neg h0]
    by_cases h1 : 32 ≤ bO p k ∧ bO p k ≤ 126
    · rw [if_pos h1, if_pos ⟨(nI_leI (by omega) (by omega)).mpr h1.1, (nI_leI (by omega) (by omega)).mpr h1.2⟩]
    · rw [if_neg h1, if_neg (fun q => h1 ⟨(nI_leI (by omega) (by omega)).mp q.1, (nI_leI (by omega) (by omega)).mp q.2⟩)]
theorem bC_le (p : Int32) (k : Nat) : bC p k ≤ 100 := by
  unfold bC; split
  · omega
  · split <;> omega
theorem sm_mono {f : Nat → Nat} : ∀ {a b : Nat}, a ≤ b → sm f a ≤ sm f b
  | a, 0, h => by rw [show a = 0 by omega]; exact Nat.le_refl _
  | a, b + 1, h => by
    by_cases e : a = b + 1
    · rw [e]; exact Nat.le_refl _
    · have := sm_mono (f := f) (a := a) (b := b) (by omega)
      rw [sm]; omega
theorem apI_n {F : Nat → Nat} {n : Nat} {p : Int32} (h : sm (bC p) 4 ≤ 4) : ∀ k, k ≤ 4 → (apI F n p k).2 = n + sm (bC p) k
  | 0, _ => rfl
  | k + 1, hk => by
    have h1 := apI_n (F := F) (n := n) h k (by omega)
    have h2 := sm_mono (f := bC p) (show k + 1 ≤ 4 by omega)
    rw [sm] at h2
    rw [sm]
    unfold apI
    by_cases h0 : bO p k = 0
    · rw [if_pos h0, h1]; unfold bC; rw [if_pos h0]; rfl
    · rw [if_neg h0]
      show (apI F n p k).2 + 1 = _
      have h3 : bC p k = 1 := by
        by_cases h4 : 32 ≤ bO p k ∧ bO p k ≤ 126
        · unfold bC; rw [if_neg h0, if_pos h4]
        · have h5 : bC p k = 100 := by unfold bC; rw [if_neg h0, if_neg h4]
          omega
      rw [h1, h3]; omega
theorem apI_lt {F : Nat → Nat} {n k : Nat} {p : Int32} (h : sm (bC p) 4 ≤ 4) (h60 : n + sm (bC p) 4 ≤ 60) (hk : k < 4) (h0 : ¬ bO p k = 0) : (apI F n p k).2 < 60 := by
  have h1 := apI_n (F := F) (n := n) h k (by omega)
  have h2 := sm_mono (f := bC p) (show k + 1 ≤ 4 by omega)
  rw [sm] at h2
  have h3 : 0 < bC p k := by
    unfold bC; rw [if_neg h0]; split <;> omega
  omega
theorem apI_le {F : Nat → Nat} {n k : Nat} {p : Int32} (h : sm (bC p) 4 ≤ 4) (h60 : n + sm (bC p) 4 ≤ 60) (hk : k ≤ 4) : (apI F n p k).2 ≤ 60 := by
  have h1 := apI_n (F := F) (n := n) h k hk
  have h2 := sm_mono (f := bC p) hk
  omega

set_option maxHeartbeats 1000000 in
set_option maxRecDepth 100000 in
theorem c_X7_doorOf (l : Launch) {D : va_G} {cI cC : ClassId} {h aG aB aH aS aI aL aT : Nat} {G B Hi Sv In Le : Nat → Nat} {To : Nat → Int32} {ch hs ty wy ln th sp iw : Nat} {ea ra wd : Int32} {A : Nat → Prop} (hD : ∀ (G B Hi Sv In Le : Nat → Nat) (To : Nat → Int32) (fs : List Value), va_D A [(h, .inr (9, fs)), (aG, .inl (cI, 128, .inl (gN G))), (aB, .inl (cI, 128, .inl (gN B))), (aH, .inl (cI, 1024, .inl (gN Hi))), (aS, .inl (cI, 128, .inl (gN Sv))), (aI, .inl (cI, 60, .inl (gN In))), (aL, .inl (cC, 40, .inl (gN Le))), (aT, .inl (cI, 360, .inl To))]) {b : Nat} (hG : gWf b G) (d w : Int32) : Met l yX7_doorOf wsX7_doorOf ({ frames := 2, cells := 0, slots := 0, locals := 43 }) (va_Pc [.ref h, .int d, .int w] (sPre D [(cI, .int), (cC, .char)] [] (fun H => va_P D vwCl [(h, .inr (9, [.ref aG, .ref aB, .ref aH, .int (nI ch), .ref aS, .int (nI hs), .ref aI, .int (nI ty), .int ea, .int ra, .int (nI wy), .int wd, .ref aL, .int (nI ln), .int (nI th), .int (nI sp), .int (nI iw), .ref aT])), (aG, .inl (cI, 128, .inl (gN G))), (aB, .inl (cI, 128, .inl (gN B))), (aH, .inl (cI, 1024, .inl (gN Hi))), (aS, .inl (cI, 128, .inl (gN Sv))), (aI, .inl (cI, 60, .inl (gN In))), (aL, .inl (cC, 40, .inl (gN Le))), (aT, .inl (cI, 360, .inl To))] H))) (mQ D ((if iR d (G 0) then (if iR w 11 then qDoor G (tN d) (tN w) else 0) else 0)) [(h, .inr (9, [.ref aG, .ref aB, .ref aH, .int (nI ch), .ref aS, .int (nI hs), .ref aI, .int (nI ty), .int ea, .int ra, .int (nI wy), .int wd, .ref aL, .int (nI ln), .int (nI ((if iR d (G 0) then (if iR w 11 then 0 else 2) else 1))), .int (nI sp), .int (nI iw), .ref aT])), (aG, .inl (cI, 128, .inl (gN G))), (aB, .inl (cI, 128, .inl (gN B))), (aH, .inl (cI, 1024, .inl (gN Hi))), (aS, .inl (cI, 128, .inl (gN Sv))), (aI, .inl (cI, 60, .inl (gN In))), (aL, .inl (cC, 40, .inl (gN Le))), (aT, .inl (cI, 360, .inl To))] A) 0 0 A := by
  refine nv_met (cc := cX7_doorOf) (maxL := 3) (ret := (some .int)) (by decide) rfl (Nat.le_of_ble_eq_true rfl) ?_
  intro p0 e0 s m0 args below meth c0 Q hq hargs hnA hpre ls hl
  obtain ⟨hx, hb, hr, hts, hown, hlocks, hml⟩ := hnA
  obtain ⟨hP, hK⟩ := hpre
  have hown : s.vm.findClass RX7 = some m0.cls := hown
  have hP : va_P D vwCl [(h, .inr (9, [.ref aG, .ref aB, .ref aH, .int (nI ch), .ref aS, .int (nI hs), .ref aI, .int (nI ty), .int ea, .int ra, .int (nI wy), .int wd, .ref aL, .int (nI ln), .int (nI th), .int (nI sp), .int (nI iw), .ref aT])), (aG, .inl (cI, 128, .inl (gN G))), (aB, .inl (cI, 128, .inl (gN B))), (aH, .inl (cI, 1024, .inl (gN Hi))), (aS, .inl (cI, 128, .inl (gN Sv))), (aI, .inl (cI, 60, .inl (gN In))), (aL, .inl (cC, 40, .inl (gN Le))), (aT, .inl (cI, 360, .inl To))] s.heap := hP
  have hl : lv_has ls 3 [(0, .ref h), (1, .int d), (2, .int w)] := hl
  have hS : va_S A s.heap s.heap [] := va_S.rf
  have in_X7 : ∀ w ∈ wsX70, w ∈ wsX7_doorOf := by decide +kernel
  have fl_7 := hts (.fieldLink RX7 7 "DoorDialectModel" "g" "[I") (by decide +kernel)
  obtain ⟨g_b, g_k, g_0, g_1, g_2, g_e, g_d, g_t, g_y, g_s, g_h⟩ := id hG
  refine lv_aload_n hx hb dX7_doorOf_0 rfl (lv_at hl 0 rfl) ?_
  refine lv_iload_n hx hb dX7_doorOf_1 rfl (lv_at hl 1 rfl) ?_
  refine nv_kS (va_runV (As := [.int d]) (rest := []) ⟨hx, hb, hml, hown, hts⟩ (c_X7_isDoor l (d) (by omega)) (cwV 1 hts gX7_doorOf_X7_isDoor rfl rfl rfl (by decide +kernel) ⟨Nat.le_of_ble_eq_true rfl, Nat.le_of_ble_eq_true rfl⟩) (nv_pV hK hP (va_recv hK.1 hP (ci := 9) (q0 := 0) rfl rfl)) rfl rfl hl.1 rfl (lv_room (Nat.le_of_ble_eq_true rfl)) dX7_doorOf_2 ⟨Nat.zero_le _, Nat.zero_le _⟩) ?_
  refine nv_ifb_ne (tgt := 14) hx hb dX7_doorOf_5 (by decide) (fun c1 => ?_) (fun c1 => ?_)
  · obtain ⟨dk, h_dk, rfl⟩ := iR_of c1 (by omega)
    have et_dk : tN (nI dk) = dk := tN_nI (by omega)
    obtain ⟨w_a, w_g, w_n, w_s, w_w, w_l, w_o, w_x, w_y, w_1, w_2, w_3, w_4⟩ := hG.door (d := dk) (by omega)
    have hcc := gWf_case hG (d := dk) (by omega)
    refine lv_iload_n hx hb dX7_doorOf_14 rfl (lv_at hl 2 rfl) ?_
    by_cases c2 : iR (w) 11
    · obtain ⟨j3, hj4, rfl⟩ := iR_of c2 (by decide)
      rcases (show j3 = 0 ∨ j3 = 1 ∨ j3 = 2 ∨ j3 = 3 ∨ j3 = 4 ∨ j3 = 5 ∨ j3 = 6 ∨ j3 = 7 ∨ j3 = 8 ∨ j3 = 9 ∨ j3 = 10 by omega) with rfl | rfl | rfl | rfl | rfl | rfl | rfl | rfl | rfl | rfl | rfl
      · refine lv_tableIn (off := 57) (tgt := 72) hx hb dX7_doorOf_15 (by decide +kernel) (by decide +kernel) rfl (by decide) ?_
        have et_w : tN (nI 0) = 0 := rfl
        refine lv_aload_n hx hb dX7_doorOf_72 rfl (lv_at hl 0 rfl) ?_
        refine lv_aload_n hx hb dX7_doorOf_73 rfl (lv_at hl 0 rfl) ?_
        refine va_get (D := D) (ci := 9) (v := .ref aG) (C := RX7) (T := TX7) (N := 18) hx hb hts in_X7 hown hK.1 hP 0 rfl rfl 0 (by decide) fl_7 (fun _ h9 => h9) rfl dX7_doorOf_74 ?_
        refine lv_bipush (v := nI 32) hx hb dX7_doorOf_77 (by decide) ?_
        refine lv_iload_n hx hb dX7_doorOf_79 rfl (lv_at hl 1 rfl) ?_
        refine nv_iadd hx hb dX7_doorOf_80 ?_
        refine nv_gald (i := 32 + dk) hx hb hK.1 hP 1 0 rfl rfl (by first | omega | (simp only [gEndAt]; omega)) (by decide) dX7_doorOf_81 ?_
        have q5 : G (32 + dk) < 2 ^ 20 := hG.lt (k := 32 + dk) (by omega)
        refine nv_kM (va_runV (As := [.int (nI (G (32 + dk)))]) (rest := []) ⟨hx, hb, hml, hown, hts⟩ (c_X7_done l hD (nI (G (32 + dk)))) (cwV 1 hts gX7_doorOf_X7_done rfl rfl rfl (by decide +kernel) ⟨Nat.le_of_ble_eq_true rfl, Nat.le_of_ble_eq_true rfl⟩) (nv_pV hK hP (va_recv hK.1 hP (ci := 9) (q0 := 0) rfl rfl)) rfl rfl hl.1 rfl (lv_room (Nat.le_of_ble_eq_true rfl)) dX7_doorOf_82 ⟨Nat.zero_le _, Nat.zero_le _⟩) hS (fun H locs hP hS => ?_)
        have hP : va_P D vwCl [(h, .inr (9, [.ref aG, .ref aB, .ref aH, .int (nI ch), .ref aS, .int (nI hs), .ref aI, .int (nI ty), .int ea, .int ra, .int (nI wy), .int wd, .ref aL, .int (nI ln), .int (nI 0), .int (nI sp), .int (nI iw), .ref aT])), (aG, .inl (cI, 128, .inl (gN G))), (aB, .inl (cI, 128, .inl (gN B))), (aH, .inl (cI, 1024, .inl (gN Hi))), (aS, .inl (cI, 128, .inl (gN Sv))), (aI, .inl (cI, 60, .inl (gN In))), (aL, .inl (cC, 40, .inl (gN Le))), (aT, .inl (cI, 360, .inl To))] H := hP
        exact nv_retM hq hx hb hr hlocks (nar_i _) (by rw [if_pos c1, et_dk, if_pos c2, et_w]; rfl) hS hP (by rw [if_pos c1, if_pos c2]) dX7_doorOf_85
      · refine lv_tableIn (off := 71) (tgt := 86) hx hb dX7_doorOf_15 (by decide +kernel) (by decide +kernel) rfl (by decide) ?_
        have et_w : tN (nI 1) = 1 := rfl
        refine lv_aload_n hx hb dX7_doorOf_86 rfl (lv_at hl 0 rfl) ?_
        refine lv_aload_n hx hb dX7_doorOf_87 rfl (lv_at hl 0 rfl) ?_
        refine va_get (D := D) (ci := 9) (v := .ref aG) (C := RX7) (T := TX7) (N := 18) hx hb hts in_X7 hown hK.1 hP 0 rfl rfl 0 (by decide) fl_7 (fun _ h9 => h9) rfl dX7_doorOf_88 ?_
        refine lv_bipush (v := nI 40) hx hb dX7_doorOf_91 (by decide) ?_
        refine lv_iload_n hx hb dX7_doorOf_93 rfl (lv_at hl 1 rfl) ?_
        refine nv_iadd hx hb dX7_doorOf_94 ?_
        refine nv_gald (i := 40 + dk) hx hb hK.1 hP 1 0 rfl rfl (by first | omega | (simp only [gEndAt]; omega)) (by decide) dX7_doorOf_95 ?_
        have q6 : G (40 + dk) < 2 ^ 20 := hG.lt (k := 40 + dk) (by omega)
        refine nv_kM (va_runV (As := [.int (nI (G (40 + dk)))]) (rest := []) ⟨hx, hb, hml, hown, hts⟩ (c_X7_done l hD (nI (G (40 + dk)))) (cwV 1 hts gX7_doorOf_X7_done rfl rfl rfl (by decide +kernel) ⟨Nat.le_of_ble_eq_true rfl, Nat.le_of_ble_eq_true rfl⟩) (nv_pV hK hP (va_recv hK.1 hP (ci := 9) (q0 := 0) rfl rfl)) rfl rfl hl.1 rfl (lv_room (Nat.le_of_ble_eq_true rfl)) dX7_doorOf_96 ⟨Nat.zero_le _, Nat.zero_le _⟩) hS (fun H locs hP hS => ?_)
        have hP : va_P D vwCl [(h, .inr (9, [.ref aG, .ref aB, .ref aH, .int (nI ch), .ref aS, .int (nI hs), .ref aI, .int (nI ty), .int ea, .int ra, .int (nI wy), .int wd, .ref aL, .int (nI ln), .int (nI 0), .int (nI sp), .int (nI iw), .ref aT])), (aG, .inl (cI, 128, .inl (gN G))), (aB, .inl (cI, 128, .inl (gN B))), (aH, .inl (cI, 1024, .inl (gN Hi))), (aS, .inl (cI, 128, .inl (gN Sv))), (aI, .inl (cI, 60, .inl (gN In))), (aL, .inl (cC, 40, .inl (gN Le))), (aT, .inl (cI, 360, .inl To))] H := hP
        exact nv_retM hq hx hb hr hlocks (nar_i _) (by rw [if_pos c1, et_dk, if_pos c2, et_w]; rfl) hS hP (by rw [if_pos c1, if_pos c2]) dX7_doorOf_99
      · refine lv_tableIn (off := 85) (tgt := 100) hx hb dX7_doorOf_15 (by decide +kernel) (by decide +kernel) rfl (by decide) ?_
        have et_w : tN (nI 2) = 2 := rfl
        refine lv_aload_n hx hb dX7_doorOf_100 rfl (lv_at hl 0 rfl) ?_
        refine lv_aload_n hx hb dX7_doorOf_101 rfl (lv_at hl 0 rfl) ?_
        refine va_get (D := D) (ci := 9) (v := .ref aG) (C := RX7) (T := TX7) (N := 18) hx hb hts in_X7 hown hK.1 hP 0 rfl rfl 0 (by decide) fl_7 (fun _ h9 => h9) rfl dX7_doorOf_102 ?_
        refine lv_bipush (v := nI 48) hx hb dX7_doorOf_105 (by decide) ?_
        refine lv_iload_n hx hb dX7_doorOf_107 rfl (lv_at hl 1 rfl) ?_
        refine nv_iadd hx hb dX7_doorOf_108 ?_
        refine nv_gald (i := 48 + dk) hx hb hK.1 hP 1 0 rfl rfl (by first | omega | (simp only [gEndAt]; omega)) (by decide) dX7_doorOf_109 ?_
        have q7 : G (48 + dk) < 2 ^ 20 := hG.lt (k := 48 + dk) (by omega)
        refine nv_kM (va_runV (As := [.int (nI (G (48 + dk)))]) (rest := []) ⟨hx, hb, hml, hown, hts⟩ (c_X7_done l hD (nI (G (48 + dk)))) (cwV 1 hts gX7_doorOf_X7_done rfl rfl rfl (by decide +kernel) ⟨Nat.le_of_ble_eq_true rfl, Nat.le_of_ble_eq_true rfl⟩) (nv_pV hK hP (va_recv hK.1 hP (ci := 9) (q0 := 0) rfl rfl)) rfl rfl hl.1 rfl (lv_room (Nat.le_of_ble_eq_true rfl)) dX7_doorOf_110 ⟨Nat.zero_le _, Nat.zero_le _⟩) hS (fun H locs hP hS => ?_)
        have hP : va_P D vwCl [(h, .inr (9, [.ref aG, .ref aB, .ref aH, .int (nI ch), .ref aS, .int (nI hs), .ref aI, .int (nI ty), .int ea, .int ra, .int (nI wy), .int wd, .ref aL, .int (nI ln), .int (nI 0), .int (nI sp), .int (nI iw), .ref aT])), (aG, .inl (cI, 128, .inl (gN G))), (aB, .inl (cI, 128, .inl (gN B))), (aH, .inl (cI, 1024, .inl (gN Hi))), (aS, .inl (cI, 128, .inl (gN Sv))), (aI, .inl (cI, 60, .inl (gN In))), (aL, .inl (cC, 40, .inl (gN Le))), (aT, .inl (cI, 360, .inl To))] H := hP
        exact nv_retM hq hx hb hr hlocks (nar_i _) (by rw [if_pos c1, et_dk, if_pos c2, et_w]; rfl) hS hP (by rw [if_pos c1, if_pos c2]) dX7_doorOf_113
      · refine lv_tableIn (off := 99) (tgt := 114) hx hb dX7_doorOf_15 (by decide +kernel) (by decide +kernel) rfl (by decide) ?_
        have et_w : tN (nI 3) = 3 := rfl
        refine lv_aload_n hx hb dX7_doorOf_114 rfl (lv_at hl 0 rfl) ?_
        refine lv_aload_n hx hb dX7_doorOf_115 rfl (lv_at hl 0 rfl) ?_
        refine va_get (D := D) (ci := 9) (v := .ref aG) (C := RX7) (T := TX7) (N := 18) hx hb hts in_X7 hown hK.1 hP 0 rfl rfl 0 (by decide) fl_7 (fun _ h9 => h9) rfl dX7_doorOf_116 ?_
        refine lv_bipush (v := nI 56) hx hb dX7_doorOf_119 (by decide) ?_
        refine lv_iload_n hx hb dX7_doorOf_121 rfl (lv_at hl 1 rfl) ?_
        refine nv_iadd hx hb dX7_doorOf_122 ?_
        refine nv_gald (i := 56 + dk) hx hb hK.1 hP 1 0 rfl rfl (by first | omega | (simp only [gEndAt]; omega)) (by decide) dX7_doorOf_123 ?_
        have q8 : G (56 + dk) < 2 ^ 20 := hG.lt (k := 56 + dk) (by omega)
        refine lv_iconst (v := nI 1) hx hb dX7_doorOf_124 (by decide) ?_
        refine lv_isub hx hb dX7_doorOf_125 ?_
        refine nv_kM (va_runV (As := [.int ((nI (G (56 + dk))) - (nI (1)))]) (rest := []) ⟨hx, hb, hml, hown, hts⟩ (c_X7_done l hD ((nI (G (56 + dk))) - (nI (1)))) (cwV 1 hts gX7_doorOf_X7_done rfl rfl rfl (by decide +kernel) ⟨Nat.le_of_ble_eq_true rfl, Nat.le_of_ble_eq_true rfl⟩) (nv_pV hK hP (va_recv hK.1 hP (ci := 9) (q0 := 0) rfl rfl)) rfl rfl hl.1 rfl (lv_room (Nat.le_of_ble_eq_true rfl)) dX7_doorOf_126 ⟨Nat.zero_le _, Nat.zero_le _⟩) hS (fun H locs hP hS => ?_)
        have hP : va_P D vwCl [(h, .inr (9, [.ref aG, .ref aB, .ref aH, .int (nI ch), .ref aS, .int (nI hs), .ref aI, .int (nI ty), .int ea, .int ra, .int (nI wy), .int wd, .ref aL, .int (nI ln), .int (nI 0), .int (nI sp), .int (nI iw), .ref aT])), (aG, .inl (cI, 128, .inl (gN G))), (aB, .inl (cI, 128, .inl (gN B))), (aH, .inl (cI, 1024, .inl (gN Hi))), (aS, .inl (cI, 128, .inl (gN Sv))), (aI, .inl (cI, 60, .inl (gN In))), (aL, .inl (cC, 40, .inl (gN Le))), (aT, .inl (cI, 360, .inl To))] H := hP
        exact nv_retM hq hx hb hr hlocks (nar_i _) (by rw [if_pos c1, et_dk, if_pos c2, et_w]; rfl) hS hP (by rw [if_pos c1, if_pos c2]) dX7_doorOf_129
      · refine lv_tableIn (off := 115) (tgt := 130) hx hb dX7_doorOf_15 (by decide +kernel) (by decide +kernel) rfl (by decide) ?_
        have et_w : tN (nI 4) = 4 := rfl
        refine lv_aload_n hx hb dX7_doorOf_130 rfl (lv_at hl 0 rfl) ?_
        refine lv_aload_n hx hb dX7_doorOf_131 rfl (lv_at hl 0 rfl) ?_
        refine lv_iload_n hx hb dX7_doorOf_132 rfl (lv_at hl 1 rfl) ?_
        refine nv_kS (va_runV (As := [.int (nI dk)]) (rest := [.ref h]) ⟨hx, hb, hml, hown, hts⟩ (c_X7_caseOf l dk (by omega) (by omega)) (cwV 1 hts gX7_doorOf_X7_caseOf rfl rfl rfl (by decide +kernel) ⟨Nat.le_of_ble_eq_true rfl, Nat.le_of_ble_eq_true rfl⟩) (nv_pV hK hP (va_recv hK.1 hP (ci := 9) (q0 := 0) rfl rfl)) rfl rfl hl.1 rfl (lv_room (Nat.le_of_ble_eq_true rfl)) dX7_doorOf_133 ⟨Nat.zero_le _, Nat.zero_le _⟩) ?_
        refine nv_kM (va_runV (As := [.int (nI (gCase G dk))]) (rest := []) ⟨hx, hb, hml, hown, hts⟩ (c_X7_done l hD (nI (gCase G dk))) (cwV 1 hts gX7_doorOf_X7_done rfl rfl rfl (by decide +kernel) ⟨Nat.le_of_ble_eq_true rfl, Nat.le_of_ble_eq_true rfl⟩) (nv_pV hK hP (va_recv hK.1 hP (ci := 9) (q0 := 0) rfl rfl)) rfl rfl hl.1 rfl (lv_room (Nat.le_of_ble_eq_true rfl)) dX7_doorOf_136 ⟨Nat.zero_le _, Nat.zero_le _⟩) hS (fun H locs hP hS => ?_)
        have hP : va_P D vwCl [(h, .inr (9, [.ref aG, .ref aB, .ref aH, .int (nI ch), .ref aS, .int (nI hs), .ref aI, .int (nI ty), .int ea, .int ra, .int (nI wy), .int wd, .ref aL, .int (nI ln), .int (nI 0), .int (nI sp), .int (nI iw), .ref aT])), (aG, .inl (cI, 128, .inl (gN G))), (aB, .inl (cI, 128, .inl (gN B))), (aH, .inl (cI, 1024, .inl (gN Hi))), (aS, .inl (cI, 128, .inl (gN Sv))), (aI, .inl (cI, 60, .inl (gN In))), (aL, .inl (cC, 40, .inl (gN Le))), (aT, .inl (cI, 360, .inl To))] H := hP
        exact nv_retM hq hx hb hr hlocks (nar_i _) (by rw [if_pos c1, et_dk, if_pos c2, et_w]; rfl) hS hP (by rw [if_pos c1, if_pos c2]) dX7_doorOf_139
      · refine lv_tableIn (off := 125) (tgt := 140) hx hb dX7_doorOf_15 (by decide +kernel) (by decide +kernel) rfl (by decide) ?_
        have et_w : tN (nI 5) = 5 := rfl
        refine lv_aload_n hx hb dX7_doorOf_140 rfl (lv_at hl 0 rfl) ?_
        refine lv_aload_n hx hb dX7_doorOf_141 rfl (lv_at hl 0 rfl) ?_
        refine va_get (D := D) (ci := 9) (v := .ref aG) (C := RX7) (T := TX7) (N := 18) hx hb hts in_X7 hown hK.1 hP 0 rfl rfl 0 (by decide) fl_7 (fun _ h9 => h9) rfl dX7_doorOf_142 ?_
        refine lv_bipush (v := nI 64) hx hb dX7_doorOf_145 (by decide) ?_
        refine lv_iload_n hx hb dX7_doorOf_147 rfl (lv_at hl 1 rfl) ?_
        refine nv_iadd hx hb dX7_doorOf_148 ?_
        refine nv_gald (i := 64 + dk) hx hb hK.1 hP 1 0 rfl rfl (by first | omega | (simp only [gEndAt]; omega)) (by decide) dX7_doorOf_149 ?_
        have q9 : G (64 + dk) < 2 ^ 20 := hG.lt (k := 64 + dk) (by omega)
        refine nv_kM (va_runV (As := [.int (nI (G (64 + dk)))]) (rest := []) ⟨hx, hb, hml, hown, hts⟩ (c_X7_done l hD (nI (G (64 + dk)))) (cwV 1 hts gX7_doorOf_X7_done rfl rfl rfl (by decide +kernel) ⟨Nat.le_of_ble_eq_true rfl, Nat.le_of_ble_eq_true rfl⟩) (nv_pV hK hP (va_recv hK.1 hP (ci := 9) (q0 := 0) rfl rfl)) rfl rfl hl.1 rfl (lv_room (Nat.le_of_ble_eq_true rfl)) dX7_doorOf_150 ⟨Nat.zero_le _, Nat.zero_le _⟩) hS (fun H locs hP hS => ?_)
        have hP : va_P D vwCl [(h, .inr (9, [.ref aG, .ref aB, .ref aH, .int (nI ch), .ref aS, .int (nI hs), .ref aI, .int (nI ty), .int ea, .int ra, .int (nI wy), .int wd, .ref aL, .int (nI ln), .int (nI 0), .int (nI sp), .int (nI iw), .ref aT])), (aG, .inl (cI, 128, .inl (gN G))), (aB, .inl (cI, 128, .inl (gN B))), (aH, .inl (cI, 1024, .inl (gN Hi))), (aS, .inl (cI, 128, .inl (gN Sv))), (aI, .inl (cI, 60, .inl (gN In))), (aL, .inl (cC, 40, .inl (gN Le))), (aT, .inl (cI, 360, .inl To))] H := hP
        exact nv_retM hq hx hb hr hlocks (nar_i _) (by rw [if_pos c1, et_dk, if_pos c2, et_w]; rfl) hS hP (by rw [if_pos c1, if_pos c2]) dX7_doorOf_153
      · refine lv_tableIn (off := 139) (tgt := 154) hx hb dX7_doorOf_15 (by decide +kernel) (by decide +kernel) rfl (by decide) ?_
        have et_w : tN (nI 6) = 6 := rfl
        refine lv_aload_n hx hb dX7_doorOf_154 rfl (lv_at hl 0 rfl) ?_
        refine lv_aload_n hx hb dX7_doorOf_155 rfl (lv_at hl 0 rfl) ?_
        refine va_get (D := D) (ci := 9) (v := .ref aG) (C := RX7) (T := TX7) (N := 18) hx hb hts in_X7 hown hK.1 hP 0 rfl rfl 0 (by decide) fl_7 (fun _ h9 => h9) rfl dX7_doorOf_156 ?_
        refine lv_bipush (v := nI 72) hx hb dX7_doorOf_159 (by decide) ?_
        refine lv_iload_n hx hb dX7_doorOf_161 rfl (lv_at hl 1 rfl) ?_
        refine nv_iadd hx hb dX7_doorOf_162 ?_
        refine nv_gald (i := 72 + dk) hx hb hK.1 hP 1 0 rfl rfl (by first | omega | (simp only [gEndAt]; omega)) (by decide) dX7_doorOf_163 ?_
        have q10 : G (72 + dk) < 2 ^ 20 := hG.lt (k := 72 + dk) (by omega)
        refine nv_kM (va_runV (As := [.int (nI (G (72 + dk)))]) (rest := []) ⟨hx, hb, hml, hown, hts⟩ (c_X7_done l hD (nI (G (72 + dk)))) (cwV 1 hts gX7_doorOf_X7_done rfl rfl rfl (by decide +kernel) ⟨Nat.le_of_ble_eq_true rfl, Nat.le_of_ble_eq_true rfl⟩) (nv_pV hK hP (va_recv hK.1 hP (ci := 9) (q0 := 0) rfl rfl)) rfl rfl hl.1 rfl (lv_room (Nat.le_of_ble_eq_true rfl)) dX7_doorOf_164 ⟨Nat.zero_le _, Nat.zero_le _⟩) hS (fun H locs hP hS => ?_)
        have hP : va_P D vwCl [(h, .inr (9, [.ref aG, .ref aB, .ref aH, .int (nI ch), .ref aS, .int (nI hs), .ref aI, .int (nI ty), .int ea, .int ra, .int (nI wy), .int wd, .ref aL, .int (nI ln), .int (nI 0), .int (nI sp), .int (nI iw), .ref aT])), (aG, .inl (cI, 128, .inl (gN G))), (aB, .inl (cI, 128, .inl (gN B))), (aH, .inl (cI, 1024, .inl (gN Hi))), (aS, .inl (cI, 128, .inl (gN Sv))), (aI, .inl (cI, 60, .inl (gN In))), (aL, .inl (cC, 40, .inl (gN Le))), (aT, .inl (cI, 360, .inl To))] H := hP
        exact nv_retM hq hx hb hr hlocks (nar_i _) (by rw [if_pos c1, et_dk, if_pos c2, et_w]; rfl) hS hP (by rw [if_pos c1, if_pos c2]) dX7_doorOf_167
      · refine lv_tableIn (off := 153) (tgt := 168) hx hb dX7_doorOf_15 (by decide +kernel) (by decide +kernel) rfl (by decide) ?_
        have et_w : tN (nI 7) = 7 := rfl
        refine lv_aload_n hx hb dX7_doorOf_168 rfl (lv_at hl 0 rfl) ?_
        refine lv_aload_n hx hb dX7_doorOf_169 rfl (lv_at hl 0 rfl) ?_
        refine va_get (D := D) (ci := 9) (v := .ref aG) (C := RX7) (T := TX7) (N := 18) hx hb hts in_X7 hown hK.1 hP 0 rfl rfl 0 (by decide) fl_7 (fun _ h9 => h9) rfl dX7_doorOf_170 ?_
        refine lv_bipush (v := nI 80) hx hb dX7_doorOf_173 (by decide) ?_
        refine lv_iload_n hx hb dX7_doorOf_175 rfl (lv_at hl 1 rfl) ?_
        refine nv_iadd hx hb dX7_doorOf_176 ?_
        refine nv_gald (i := 80 + dk) hx hb hK.1 hP 1 0 rfl rfl (by first | omega | (simp only [gEndAt]; omega)) (by decide) dX7_doorOf_177 ?_
        have q11 : G (80 + dk) < 2 ^ 20 := hG.lt (k := 80 + dk) (by omega)
        refine nv_kM (va_runV (As := [.int (nI (G (80 + dk)))]) (rest := []) ⟨hx, hb, hml, hown, hts⟩ (c_X7_done l hD (nI (G (80 + dk)))) (cwV 1 hts gX7_doorOf_X7_done rfl rfl rfl (by decide +kernel) ⟨Nat.le_of_ble_eq_true rfl, Nat.le_of_ble_eq_true rfl⟩) (nv_pV hK hP (va_recv hK.1 hP (ci := 9) (q0 := 0) rfl rfl)) rfl rfl hl.1 rfl (lv_room (Nat.le_of_ble_eq_true rfl)) dX7_doorOf_178 ⟨Nat.zero_le _, Nat.zero_le _⟩) hS (fun H locs hP hS => ?_)
        have hP : va_P D vwCl [(h, .inr (9, [.ref aG, .ref aB, .ref aH, .int (nI ch), .ref aS, .int (nI hs), .ref aI, .int (nI ty), .int ea, .int ra, .int (nI wy), .int wd, .ref aL, .int (nI ln), .int (nI 0), .int (nI sp), .int (nI iw), .ref aT])), (aG, .inl (cI, 128, .inl (gN G))), (aB, .inl (cI, 128, .inl (gN B))), (aH, .inl (cI, 1024, .inl (gN Hi))), (aS, .inl (cI, 128, .inl (gN Sv))), (aI, .inl (cI, 60, .inl (gN In))), (aL, .inl (cC, 40, .inl (gN Le))), (aT, .inl (cI, 360, .inl To))] H := hP
        exact nv_retM hq hx hb hr hlocks (nar_i _) (by rw [if_pos c1, et_dk, if_pos c2, et_w]; rfl) hS hP (by rw [if_pos c1, if_pos c2]) dX7_doorOf_181
      · refine lv_tableIn (off := 167) (tgt := 182) hx hb dX7_doorOf_15 (by decide +kernel) (by decide +kernel) rfl (by decide) ?_
        have et_w : tN (nI 8) = 8 := rfl
        refine lv_aload_n hx hb dX7_doorOf_182 rfl (lv_at hl 0 rfl) ?_
        refine lv_aload_n hx hb dX7_doorOf_183 rfl (lv_at hl 0 rfl) ?_
        refine va_get (D := D) (ci := 9) (v := .ref aG) (C := RX7) (T := TX7) (N := 18) hx hb hts in_X7 hown hK.1 hP 0 rfl rfl 0 (by decide) fl_7 (fun _ h9 => h9) rfl dX7_doorOf_184 ?_
        refine lv_bipush (v := nI 88) hx hb dX7_doorOf_187 (by decide) ?_
        refine lv_iload_n hx hb dX7_doorOf_189 rfl (lv_at hl 1 rfl) ?_
        refine nv_iadd hx hb dX7_doorOf_190 ?_
        refine nv_gald (i := 88 + dk) hx hb hK.1 hP 1 0 rfl rfl (by first | omega | (simp only [gEndAt]; omega)) (by decide) dX7_doorOf_191 ?_
        have q12 : G (88 + dk) < 2 ^ 20 := hG.lt (k := 88 + dk) (by omega)
        refine nv_kM (va_runV (As := [.int (nI (G (88 + dk)))]) (rest := []) ⟨hx, hb, hml, hown, hts⟩ (c_X7_done l hD (nI (G (88 + dk)))) (cwV 1 hts gX7_doorOf_X7_done rfl rfl rfl (by decide +kernel) ⟨Nat.le_of_ble_eq_true rfl, Nat.le_of_ble_eq_true rfl⟩) (nv_pV hK hP (va_recv hK.1 hP (ci := 9) (q0 := 0) rfl rfl)) rfl rfl hl.1 rfl (lv_room (Nat.le_of_ble_eq_true rfl)) dX7_doorOf_192 ⟨Nat.zero_le _, Nat.zero_le _⟩) hS (fun H locs hP hS => ?_)
        have hP : va_P D vwCl [(h, .inr (9, [.ref aG, .ref aB, .ref aH, .int (nI ch), .ref aS, .int (nI hs), .ref aI, .int (nI ty), .int ea, .int ra, .int (nI wy), .int wd, .ref aL, .int (nI ln), .int (nI 0), .int (nI sp), .int (nI iw), .ref aT])), (aG, .inl (cI, 128, .inl (gN G))), (aB, .inl (cI, 128, .inl (gN B))), (aH, .inl (cI, 1024, .inl (gN Hi))), (aS, .inl (cI, 128, .inl (gN Sv))), (aI, .inl (cI, 60, .inl (gN In))), (aL, .inl (cC, 40, .inl (gN Le))), (aT, .inl (cI, 360, .inl To))] H := hP
        exact nv_retM hq hx hb hr hlocks (nar_i _) (by rw [if_pos c1, et_dk, if_pos c2, et_w]; rfl) hS hP (by rw [if_pos c1, if_pos c2]) dX7_doorOf_195
      · refine lv_tableIn (off := 181) (tgt := 196) hx hb dX7_doorOf_15 (by decide +kernel) (by decide +kernel) rfl (by decide) ?_
        have et_w : tN (nI 9) = 9 := rfl
        refine lv_aload_n hx hb dX7_doorOf_196 rfl (lv_at hl 0 rfl) ?_
        refine lv_aload_n hx hb dX7_doorOf_197 rfl (lv_at hl 0 rfl) ?_
        refine va_get (D := D) (ci := 9) (v := .ref aG) (C := RX7) (T := TX7) (N := 18) hx hb hts in_X7 hown hK.1 hP 0 rfl rfl 0 (by decide) fl_7 (fun _ h9 => h9) rfl dX7_doorOf_198 ?_
        refine lv_bipush (v := nI 96) hx hb dX7_doorOf_201 (by decide) ?_
        refine lv_iload_n hx hb dX7_doorOf_203 rfl (lv_at hl 1 rfl) ?_
        refine nv_iadd hx hb dX7_doorOf_204 ?_
        refine nv_gald (i := 96 + dk) hx hb hK.1 hP 1 0 rfl rfl (by first | omega | (simp only [gEndAt]; omega)) (by decide) dX7_doorOf_205 ?_
        have q13 : G (96 + dk) < 2 ^ 20 := hG.lt (k := 96 + dk) (by omega)
        refine nv_kM (va_runV (As := [.int (nI (G (96 + dk)))]) (rest := []) ⟨hx, hb, hml, hown, hts⟩ (c_X7_done l hD (nI (G (96 + dk)))) (cwV 1 hts gX7_doorOf_X7_done rfl rfl rfl (by decide +kernel) ⟨Nat.le_of_ble_eq_true rfl, Nat.le_of_ble_eq_true rfl⟩) (nv_pV hK hP (va_recv hK.1 hP (ci := 9) (q0 := 0) rfl rfl)) rfl rfl hl.1 rfl (lv_room (Nat.le_of_ble_eq_true rfl)) dX7_doorOf_206 ⟨Nat.zero_le _, Nat.zero_le _⟩) hS (fun H locs hP hS => ?_)
        have hP : va_P D vwCl [(h, .inr (9, [.ref aG, .ref aB, .ref aH, .int (nI ch), .ref aS, .int (nI hs), .ref aI, .int (nI ty), .int ea, .int ra, .int (nI wy), .int wd, .ref aL, .int (nI ln), .int (nI 0), .int (nI sp), .int (nI iw), .ref aT])), (aG, .inl (cI, 128, .inl (gN G))), (aB, .inl (cI, 128, .inl (gN B))), (aH, .inl (cI, 1024, .inl (gN Hi))), (aS, .inl (cI, 128, .inl (gN Sv))), (aI, .inl (cI, 60, .inl (gN In))), (aL, .inl (cC, 40, .inl (gN Le))), (aT, .inl (cI, 360, .inl To))] H := hP
        exact nv_retM hq hx hb hr hlocks (nar_i _) (by rw [if_pos c1, et_dk, if_pos c2, et_w]; rfl) hS hP (by rw [if_pos c1, if_pos c2]) dX7_doorOf_209
      · refine lv_tableIn (off := 195) (tgt := 210) hx hb dX7_doorOf_15 (by decide +kernel) (by decide +kernel) rfl (by decide) ?_
        have et_w : tN (nI 10) = 10 := rfl
        refine lv_aload_n hx hb dX7_doorOf_210 rfl (lv_at hl 0 rfl) ?_
        refine lv_aload_n hx hb dX7_doorOf_211 rfl (lv_at hl 0 rfl) ?_
        refine va_get (D := D) (ci := 9) (v := .ref aG) (C := RX7) (T := TX7) (N := 18) hx hb hts in_X7 hown hK.1 hP 0 rfl rfl 0 (by decide) fl_7 (fun _ h9 => h9) rfl dX7_doorOf_212 ?_
        refine lv_bipush (v := nI 104) hx hb dX7_doorOf_215 (by decide) ?_
        refine lv_iload_n hx hb dX7_doorOf_217 rfl (lv_at hl 1 rfl) ?_
        refine nv_iadd hx hb dX7_doorOf_218 ?_
        refine nv_gald (i := 104 + dk) hx hb hK.1 hP 1 0 rfl rfl (by first | omega | (simp only [gEndAt]; omega)) (by decide) dX7_doorOf_219 ?_
        have q14 : G (104 + dk) < 2 ^ 20 := hG.lt (k := 104 + dk) (by omega)
        refine nv_kM (va_runV (As := [.int (nI (G (104 + dk)))]) (rest := []) ⟨hx, hb, hml, hown, hts⟩ (c_X7_done l hD (nI (G (104 + dk)))) (cwV 1 hts gX7_doorOf_X7_done rfl rfl rfl (by decide +kernel) ⟨Nat.le_of_ble_eq_true rfl, Nat.le_of_ble_eq_true rfl⟩) (nv_pV hK hP (va_recv hK.1 hP (ci := 9) (q0 := 0) rfl rfl)) rfl rfl hl.1 rfl (lv_room (Nat.le_of_ble_eq_true rfl)) dX7_doorOf_220 ⟨Nat.zero_le _, Nat.zero_le _⟩) hS (fun H locs hP hS => ?_)
        have hP : va_P D vwCl [(h, .inr (9, [.ref aG, .ref aB, .ref aH, .int (nI ch), .ref aS, .int (nI hs), .ref aI, .int (nI ty), .int ea, .int ra, .int (nI wy), .int wd, .ref aL, .int (nI ln), .int (nI 0), .int (nI sp), .int (nI iw), .ref aT])), (aG, .inl (cI, 128, .inl (gN G))), (aB, .inl (cI, 128, .inl (gN B))), (aH, .inl (cI, 1024, .inl (gN Hi))), (aS, .inl (cI, 128, .inl (gN Sv))), (aI, .inl (cI, 60, .inl (gN In))), (aL, .inl (cC, 40, .inl (gN Le))), (aT, .inl (cI, 360, .inl To))] H := hP
        exact nv_retM hq hx hb hr hlocks (nar_i _) (by rw [if_pos c1, et_dk, if_pos c2, et_w]; rfl) hS hP (by rw [if_pos c1, if_pos c2]) dX7_doorOf_223
    · refine lv_tableOut (tgt := 224) hx hb dX7_doorOf_15 (by simp only [iR] at c2; omega) (by decide) ?_
      refine lv_aload_n hx hb dX7_doorOf_224 rfl (lv_at hl 0 rfl) ?_
      refine lv_iconst (v := nI 2) hx hb dX7_doorOf_225 (by decide) ?_
      refine nv_kM (va_runV (As := [.int (nI 2)]) (rest := []) ⟨hx, hb, hml, hown, hts⟩ (c_X7_fails l hD 2) (cwV 1 hts gX7_doorOf_X7_fails rfl rfl rfl (by decide +kernel) ⟨Nat.le_of_ble_eq_true rfl, Nat.le_of_ble_eq_true rfl⟩) (nv_pV hK hP (va_recv hK.1 hP (ci := 9) (q0 := 0) rfl rfl)) rfl rfl hl.1 rfl (lv_room (Nat.le_of_ble_eq_true rfl)) dX7_doorOf_226 ⟨Nat.zero_le _, Nat.zero_le _⟩) hS (fun H locs hP hS => ?_)
      have hP : va_P D vwCl [(h, .inr (9, [.ref aG, .ref aB, .ref aH, .int (nI ch), .ref aS, .int (nI hs), .ref aI, .int (nI ty), .int ea, .int ra, .int (nI wy), .int wd, .ref aL, .int (nI ln), .int (nI 2), .int (nI sp), .int (nI iw), .ref aT])), (aG, .inl (cI, 128, .inl (gN G))), (aB, .inl (cI, 128, .inl (gN B))), (aH, .inl (cI, 1024, .inl (gN Hi))), (aS, .inl (cI, 128, .inl (gN Sv))), (aI, .inl (cI, 60, .inl (gN In))), (aL, .inl (cC, 40, .inl (gN Le))), (aT, .inl (cI, 360, .inl To))] H := hP
      exact nv_retM hq hx hb hr hlocks (nar_i _) (by rw [if_pos c1, if_neg c2] <;> rfl) hS hP (by rw [if_pos c1, if_neg c2]) dX7_doorOf_229
  · refine lv_aload_n hx hb dX7_doorOf_8 rfl (lv_at hl 0 rfl) ?_
    refine lv_iconst (v := nI 1) hx hb dX7_doorOf_9 (by decide) ?_
    refine nv_kM (va_runV (As := [.int (nI 1)]) (rest := []) ⟨hx, hb, hml, hown, hts⟩ (c_X7_fails l hD 1) (cwV 1 hts gX7_doorOf_X7_fails rfl rfl rfl (by decide +kernel) ⟨Nat.le_of_ble_eq_true rfl, Nat.le_of_ble_eq_true rfl⟩) (nv_pV hK hP (va_recv hK.1 hP (ci := 9) (q0 := 0) rfl rfl)) rfl rfl hl.1 rfl (lv_room (Nat.le_of_ble_eq_true rfl)) dX7_doorOf_10 ⟨Nat.zero_le _, Nat.zero_le _⟩) hS (fun H locs hP hS => ?_)
    have hP : va_P D vwCl [(h, .inr (9, [.ref aG, .ref aB, .ref aH, .int (nI ch), .ref aS, .int (nI hs), .ref aI, .int (nI ty), .int ea, .int ra, .int (nI wy), .int wd, .ref aL, .int (nI ln), .int (nI 1), .int (nI sp), .int (nI iw), .ref aT])), (aG, .inl (cI, 128, .inl (gN G))), (aB, .inl (cI, 128, .inl (gN B))), (aH, .inl (cI, 1024, .inl (gN Hi))), (aS, .inl (cI, 128, .inl (gN Sv))), (aI, .inl (cI, 60, .inl (gN In))), (aL, .inl (cC, 40, .inl (gN Le))), (aT, .inl (cI, 360, .inl To))] H := hP
    exact nv_retM hq hx hb hr hlocks (nar_i _) (by rw [if_neg c1] <;> rfl) hS hP (by rw [if_neg c1]) dX7_doorOf_13

def qSill (G : Nat → Nat) (t j : Nat) : Nat := match j with
  | 0 => G (112 + t)
  | _ => gStand G t

set_option maxHeartbeats 1000000 in
set_option maxRecDepth 100000 in
theorem c_X7_thresholdOf (l : Launch) {D : va_G} {cI cC : ClassId} {h aG aB aH aS aI aL aT : Nat} {G B Hi Sv In Le : Nat → Nat} {To : Nat → Int32} {ch hs ty wy ln th sp iw : Nat} {ea ra wd : Int32} {A : Nat → Prop} (hD : ∀ (G B Hi Sv In Le : Nat → Nat) (To : Nat → Int32) (fs : List Value), va_D A [(h, .inr (9, fs)), (aG, .inl (cI, 128, .inl (gN G))), (aB, .inl (cI, 128, .inl (gN B))), (aH, .inl (cI, 1024, .inl (gN Hi))), (aS, .inl (cI, 128, .inl (gN Sv))), (aI, .inl (cI, 60, .inl (gN In))), (aL, .inl (cC, 40, .inl (gN Le))), (aT, .inl (cI, 360, .inl To))]) {b : Nat} (hG : gWf b G) (t w : Int32) : Met l yX7_thresholdOf wsX7_thresholdOf ({ frames := 2, cells := 0, slots := 0, locals := 43 }) (va_Pc [.ref h, .int t, .int w] (sPre D [(cI, .int), (cC, .char)] [] (fun H => va_P D vwCl [(h, .inr (9, [.ref aG, .ref aB, .ref aH, .int (nI ch), .ref aS, .int (nI hs), .ref aI, .int (nI ty), .int ea, .int ra, .int (nI wy), .int wd, .ref aL, .int (nI ln), .int (nI th), .int (nI sp), .int (nI iw), .ref aT])), (aG, .inl (cI, 128, .inl (gN G))), (aB, .inl (cI, 128, .inl (gN B))), (aH, .inl (cI, 1024, .inl (gN Hi))), (aS, .inl (cI, 128, .inl (gN Sv))), (aI, .inl (cI, 60, .inl (gN In))), (aL, .inl (cC, 40, .inl (gN Le))), (aT, .inl (cI, 360, .inl To))] H))) (mQ D ((if iR t (G 1) then (if w = nI 0 then nI (G (112 + tN t)) else (if w = nI 1 then nI (gStand G (tN t)) else 0)) else 0)) [(h, .inr (9, [.ref aG, .ref aB, .ref aH, .int (nI ch), .ref aS, .int (nI hs), .ref aI, .int (nI ty), .int ea, .int ra, .int (nI wy), .int wd, .ref aL, .int (nI ln), .int (nI ((if iR t (G 1) then (if w = nI 0 ∨ w = nI 1 then 0 else 2) else 1))), .int (nI sp), .int (nI iw), .ref aT])), (aG, .inl (cI, 128, .inl (gN G))), (aB, .inl (cI, 128, .inl (gN B))), (aH, .inl (cI, 1024, .inl (gN Hi))), (aS, .inl (cI, 128, .inl (gN Sv))), (aI, .inl (cI, 60, .inl (gN In))), (aL, .inl (cC, 40, .inl (gN Le))), (aT, .inl (cI, 360, .inl To))] A) 0 0 A := by
  refine nv_met (cc := cX7_thresholdOf) (maxL := 3) (ret := (some .int)) (by decide) rfl (Nat.le_of_ble_eq_true rfl) ?_
  intro p0 e0 s m0 args below meth c0 Q hq hargs hnA hpre ls hl
  obtain ⟨hx, hb, hr, hts, hown, hlocks, hml⟩ := hnA
  obtain ⟨hP, hK⟩ := hpre
  have hown : s.vm.findClass RX7 = some m0.cls := hown
  have hP : va_P D vwCl [(h, .inr (9, [.ref aG, .ref aB, .ref aH, .int (nI ch), .ref aS, .int (nI hs), .ref aI, .int (nI ty), .int ea, .int ra, .int (nI wy), .int wd, .ref aL, .int (nI ln), .int (nI th), .int (nI sp), .int (nI iw), .ref aT])), (aG, .inl (cI, 128, .inl (gN G))), (aB, .inl (cI, 128, .inl (gN B))), (aH, .inl (cI, 1024, .inl (gN Hi))), (aS, .inl (cI, 128, .inl (gN Sv))), (aI, .inl (cI, 60, .inl (gN In))), (aL, .inl (cC, 40, .inl (gN Le))), (aT, .inl (cI, 360, .inl To))] s.heap := hP
  have hl : lv_has ls 3 [(0, .ref h), (1, .int t), (2, .int w)] := hl
  have hS : va_S A s.heap s.heap [] := va_S.rf
  have in_X7 : ∀ w ∈ wsX70, w ∈ wsX7_thresholdOf := by decide +kernel
  have fl_7 := hts (.fieldLink RX7 7 "DoorDialectModel" "g" "[I") (by decide +kernel)
  obtain ⟨g_b, g_k, g_0, g_1, g_2, g_e, g_d, g_t, g_y, g_s, g_h⟩ := id hG
  refine lv_aload_n hx hb dX7_thresholdOf_0 rfl (lv_at hl 0 rfl) ?_
  refine lv_iload_n hx hb dX7_thresholdOf_1 rfl (lv_at hl 1 rfl) ?_
  refine nv_kS (va_runV (As := [.int t]) (rest := []) ⟨hx, hb, hml, hown, hts⟩ (c_X7_isSill l (t) (by omega)) (cwV 1 hts gX7_thresholdOf_X7_isSill rfl rfl rfl (by decide +kernel) ⟨Nat.le_of_ble_eq_true rfl, Nat.le_of_ble_eq_true rfl⟩) (nv_pV hK hP (va_recv hK.1 hP (ci := 9) (q0 := 0) rfl rfl)) rfl rfl hl.1 rfl (lv_room (Nat.le_of_ble_eq_true rfl)) dX7_thresholdOf_2 ⟨Nat.zero_le _, Nat.zero_le _⟩) ?_
  refine nv_ifb_ne (tgt := 14) hx hb dX7_thresholdOf_5 (by decide) (fun c1 => ?_) (fun c1 => ?_)
  · obtain ⟨tk, h_tk, rfl⟩ := iR_of c1 (by omega)
    have et_tk : tN (nI tk) = tk := tN_nI (by omega)
    refine lv_iload_n hx hb dX7_thresholdOf_14 rfl (lv_at hl 2 rfl) ?_
    by_cases c2 : w = nI 0
    · subst c2
      refine lv_lookup (off := 25) (tgt := 40) hx hb dX7_thresholdOf_15 (by decide) rfl (by decide) ?_
      refine lv_aload_n hx hb dX7_thresholdOf_40 rfl (lv_at hl 0 rfl) ?_
      refine lv_aload_n hx hb dX7_thresholdOf_41 rfl (lv_at hl 0 rfl) ?_
      refine va_get (D := D) (ci := 9) (v := .ref aG) (C := RX7) (T := TX7) (N := 18) hx hb hts in_X7 hown hK.1 hP 0 rfl rfl 0 (by decide) fl_7 (fun _ h9 => h9) rfl dX7_thresholdOf_42 ?_
      refine lv_bipush (v := nI 112) hx hb dX7_thresholdOf_45 (by decide) ?_
      refine lv_iload_n hx hb dX7_thresholdOf_47 rfl (lv_at hl 1 rfl) ?_
      refine nv_iadd hx hb dX7_thresholdOf_48 ?_
      refine nv_gald (i := 112 + tk) hx hb hK.1 hP 1 0 rfl rfl (by first | omega | (simp only [gEndAt]; omega)) (by decide) dX7_thresholdOf_49 ?_
      have q3 : G (112 + tk) < 2 ^ 20 := hG.lt (k := 112 + tk) (by omega)
      refine nv_kM (va_runV (As := [.int (nI (G (112 + tk)))]) (rest := []) ⟨hx, hb, hml, hown, hts⟩ (c_X7_done l hD (nI (G (112 + tk)))) (cwV 1 hts gX7_thresholdOf_X7_done rfl rfl rfl (by decide +kernel) ⟨Nat.le_of_ble_eq_true rfl, Nat.le_of_ble_eq_true rfl⟩) (nv_pV hK hP (va_recv hK.1 hP (ci := 9) (q0 := 0) rfl rfl)) rfl rfl hl.1 rfl (lv_room (Nat.le_of_ble_eq_true rfl)) dX7_thresholdOf_50 ⟨Nat.zero_le _, Nat.zero_le _⟩) hS (fun H locs hP hS => ?_)
      have hP : va_P D vwCl [(h, .inr (9, [.ref aG, .ref aB, .ref aH, .int (nI ch), .ref aS, .int (nI hs), .ref aI, .int (nI ty), .int ea, .int ra, .int (nI wy), .int wd, .ref aL, .int (nI ln), .int (nI 0), .int (nI sp), .int (nI iw), .ref aT])), (aG, .inl (cI, 128, .inl (gN G))), (aB, .inl (cI, 128, .inl (gN B))), (aH, .inl (cI, 1024, .inl (gN Hi))), (aS, .inl (cI, 128, .inl (gN Sv))), (aI, .inl (cI, 60, .inl (gN In))), (aL, .inl (cC, 40, .inl (gN Le))), (aT, .inl (cI, 360, .inl To))] H := hP
      exact nv_retM hq hx hb hr hlocks (nar_i _) (by rw [if_pos c1, et_tk] <;> rfl) hS hP (by rw [if_pos c1, if_pos (Or.inl rfl)]) dX7_thresholdOf_53
    ·
      skip
      by_cases c4 : w = nI 1
      · subst c4
        refine lv_lookup (off := 39) (tgt := 54) hx hb dX7_thresholdOf_15 (by decide) rfl (by decide) ?_
        refine lv_aload_n hx hb dX7_thresholdOf_54 rfl (lv_at hl 0 rfl) ?_
        refine lv_aload_n hx hb dX7_thresholdOf_55 rfl (lv_at hl 0 rfl) ?_
        refine lv_iload_n hx hb dX7_thresholdOf_56 rfl (lv_at hl 1 rfl) ?_
        refine nv_kS (va_runV (As := [.int (nI tk)]) (rest := [.ref h]) ⟨hx, hb, hml, hown, hts⟩ (c_X7_standing l hG tk (by omega)) (cwV 1 hts gX7_thresholdOf_X7_standing rfl rfl rfl (by decide +kernel) ⟨Nat.le_of_ble_eq_true rfl, Nat.le_of_ble_eq_true rfl⟩) (nv_pV hK hP (va_recv hK.1 hP (ci := 9) (q0 := 0) rfl rfl)) rfl rfl hl.1 rfl (lv_room (Nat.le_of_ble_eq_true rfl)) dX7_thresholdOf_57 ⟨Nat.zero_le _, Nat.zero_le _⟩) ?_
        refine nv_kM (va_runV (As := [.int (nI (gStand G tk))]) (rest := []) ⟨hx, hb, hml, hown, hts⟩ (c_X7_done l hD (nI (gStand G tk))) (cwV 1 hts gX7_thresholdOf_X7_done rfl rfl rfl (by decide +kernel) ⟨Nat.le_of_ble_eq_true rfl, Nat.le_of_ble_eq_true rfl⟩) (nv_pV hK hP (va_recv hK.1 hP (ci := 9) (q0 := 0) rfl rfl)) rfl rfl hl.1 rfl (lv_room (Nat.le_of_ble_eq_true rfl)) dX7_thresholdOf_60 ⟨Nat.zero_le _, Nat.zero_le _⟩) hS (fun H locs hP hS => ?_)
        have hP : va_P D vwCl [(h, .inr (9, [.ref aG, .ref aB, .ref aH, .int (nI ch), .ref aS, .int (nI hs), .ref aI, .int (nI ty), .int ea, .int ra, .int (nI wy), .int wd, .ref aL, .int (nI ln), .int (nI 0), .int (nI sp), .int (nI iw), .ref aT])), (aG, .inl (cI, 128, .inl (gN G))), (aB, .inl (cI, 128, .inl (gN B))), (aH, .inl (cI, 1024, .inl (gN Hi))), (aS, .inl (cI, 128, .inl (gN Sv))), (aI, .inl (cI, 60, .inl (gN In))), (aL, .inl (cC, 40, .inl (gN Le))), (aT, .inl (cI, 360, .inl To))] H := hP
        exact nv_retM hq hx hb hr hlocks (nar_i _) (by rw [if_pos c1, et_tk] <;> rfl) hS hP (by rw [if_pos c1, if_pos (Or.inr rfl)]) dX7_thresholdOf_63
      ·
        skip
        refine lv_lookup (off := 49) (tgt := 64) hx hb dX7_thresholdOf_15 (by decide) ((lv_osw c2 rfl).trans ((lv_osw c4 rfl).trans rfl)) (by decide) ?_
        refine lv_aload_n hx hb dX7_thresholdOf_64 rfl (lv_at hl 0 rfl) ?_
        refine lv_iconst (v := nI 2) hx hb dX7_thresholdOf_65 (by decide) ?_
        refine nv_kM (va_runV (As := [.int (nI 2)]) (rest := []) ⟨hx, hb, hml, hown, hts⟩ (c_X7_fails l hD 2) (cwV 1 hts gX7_thresholdOf_X7_fails rfl rfl rfl (by decide +kernel) ⟨Nat.le_of_ble_eq_true rfl, Nat.le_of_ble_eq_true rfl⟩) (nv_pV hK hP (va_recv hK.1 hP (ci := 9) (q0 := 0) rfl rfl)) rfl rfl hl.1 rfl (lv_room (Nat.le_of_ble_eq_true rfl)) dX7_thresholdOf_66 ⟨Nat.zero_le _, Nat.zero_le _⟩) hS (fun H locs hP hS => ?_)
        have hP : va_P D vwCl [(h, .inr (9, [.ref aG, .ref aB, .ref aH, .int (nI ch), .ref aS, .int (nI hs), .ref aI, .int (nI ty), .int ea, .int ra, .int (nI wy), .int wd, .ref aL, .int (nI ln), .int (nI 2), .int (nI sp), .int (nI iw), .ref aT])), (aG, .inl (cI, 128, .inl (gN G))), (aB, .inl (cI, 128, .inl (gN B))), (aH, .inl (cI, 1024, .inl (gN Hi))), (aS, .inl (cI, 128, .inl (gN Sv))), (aI, .inl (cI, 60, .inl (gN In))), (aL, .inl (cC, 40, .inl (gN Le))), (aT, .inl (cI, 360, .inl To))] H := hP
        exact nv_retM hq hx hb hr hlocks (nar_i _) (by rw [if_pos c1, if_neg c2, if_neg c4] <;> rfl) hS hP (by rw [if_pos c1, if_neg (fun q => q.elim c2 c4)]) dX7_thresholdOf_69
  · refine lv_aload_n hx hb dX7_thresholdOf_8 rfl (lv_at hl 0 rfl) ?_
    refine lv_iconst (v := nI 1) hx hb dX7_thresholdOf_9 (by decide) ?_
    refine nv_kM (va_runV (As := [.int (nI 1)]) (rest := []) ⟨hx, hb, hml, hown, hts⟩ (c_X7_fails l hD 1) (cwV 1 hts gX7_thresholdOf_X7_fails rfl rfl rfl (by decide +kernel) ⟨Nat.le_of_ble_eq_true rfl, Nat.le_of_ble_eq_true rfl⟩) (nv_pV hK hP (va_recv hK.1 hP (ci := 9) (q0 := 0) rfl rfl)) rfl rfl hl.1 rfl (lv_room (Nat.le_of_ble_eq_true rfl)) dX7_thresholdOf_10 ⟨Nat.zero_le _, Nat.zero_le _⟩) hS (fun H locs hP hS => ?_)
    have hP : va_P D vwCl [(h, .inr (9, [.ref aG, .ref aB, .ref aH, .int (nI ch), .ref aS, .int (nI hs), .ref aI, .int (nI ty), .int ea, .int ra, .int (nI wy), .int wd, .ref aL, .int (nI ln), .int (nI 1), .int (nI sp), .int (nI iw), .ref aT])), (aG, .inl (cI, 128, .inl (gN G))), (aB, .inl (cI, 128, .inl (gN B))), (aH, .inl (cI, 1024, .inl (gN Hi))), (aS, .inl (cI, 128, .inl (gN Sv))), (aI, .inl (cI, 60, .inl (gN In))), (aL, .inl (cC, 40, .inl (gN Le))), (aT, .inl (cI, 360, .inl To))] H := hP
    exact nv_retM hq hx hb hr hlocks (nar_i _) (by rw [if_neg c1] <;> rfl) hS hP (by rw [if_neg c1]) dX7_thresholdOf_13

set_option maxHeartbeats 1000000 in
set_option maxRecDepth 100000 in
theorem c_X7_often (l : Launch) {D : va_G} {cI cC : ClassId} {h aG aB aH aS aI aL aT : Nat} {G B Hi Sv In Le : Nat → Nat} {To : Nat → Int32} {ch hs ty wy ln th sp iw : Nat} {ea ra wd : Int32} {A : Nat → Prop} (hD : ∀ (G B Hi Sv In Le : Nat → Nat) (To : Nat → Int32) (fs : List Value), va_D A [(h, .inr (9, fs)), (aG, .inl (cI, 128, .inl (gN G))), (aB, .inl (cI, 128, .inl (gN B))), (aH, .inl (cI, 1024, .inl (gN Hi))), (aS, .inl (cI, 128, .inl (gN Sv))), (aI, .inl (cI, 60, .inl (gN In))), (aL, .inl (cC, 40, .inl (gN Le))), (aT, .inl (cI, 360, .inl To))]) (x : Int32) : Met l yX7_often wsX7_often ({ frames := 1, cells := 0, slots := 0, locals := 23 }) (va_Pc [.ref h, .int x] (sPre D [(cI, .int), (cC, .char)] [] (fun H => va_P D vwCl [(h, .inr (9, [.ref aG, .ref aB, .ref aH, .int (nI ch), .ref aS, .int (nI hs), .ref aI, .int (nI ty), .int ea, .int ra, .int (nI wy), .int wd, .ref aL, .int (nI ln), .int (nI th), .int (nI sp), .int (nI iw), .ref aT])), (aG, .inl (cI, 128, .inl (gN G))), (aB, .inl (cI, 128, .inl (gN B))), (aH, .inl (cI, 1024, .inl (gN Hi))), (aS, .inl (cI, 128, .inl (gN Sv))), (aI, .inl (cI, 60, .inl (gN In))), (aL, .inl (cC, 40, .inl (gN Le))), (aT, .inl (cI, 360, .inl To))] H))) (mQ D ((if nI 97 ≤ x ∧ x ≤ nI 122 then nI (gOften G (x - nI 97)) else 0)) [(h, .inr (9, [.ref aG, .ref aB, .ref aH, .int (nI ch), .ref aS, .int (nI hs), .ref aI, .int (nI ty), .int ea, .int ra, .int (nI wy), .int wd, .ref aL, .int (nI ln), .int (nI ((if nI 97 ≤ x ∧ x ≤ nI 122 then 0 else 1))), .int (nI sp), .int (nI iw), .ref aT])), (aG, .inl (cI, 128, .inl (gN G))), (aB, .inl (cI, 128, .inl (gN B))), (aH, .inl (cI, 1024, .inl (gN Hi))), (aS, .inl (cI, 128, .inl (gN Sv))), (aI, .inl (cI, 60, .inl (gN In))), (aL, .inl (cC, 40, .inl (gN Le))), (aT, .inl (cI, 360, .inl To))] A) 0 0 A := by
  refine nv_met (cc := cX7_often) (maxL := 2) (ret := (some .int)) (by decide) rfl (Nat.le_of_ble_eq_true rfl) ?_
  intro p0 e0 s m0 args below meth c0 Q hq hargs hnA hpre ls hl
  obtain ⟨hx, hb, hr, hts, hown, hlocks, hml⟩ := hnA
  obtain ⟨hP, hK⟩ := hpre
  have hown : s.vm.findClass RX7 = some m0.cls := hown
  have hP : va_P D vwCl [(h, .inr (9, [.ref aG, .ref aB, .ref aH, .int (nI ch), .ref aS, .int (nI hs), .ref aI, .int (nI ty), .int ea, .int ra, .int (nI wy), .int wd, .ref aL, .int (nI ln), .int (nI th), .int (nI sp), .int (nI iw), .ref aT])), (aG, .inl (cI, 128, .inl (gN G))), (aB, .inl (cI, 128, .inl (gN B))), (aH, .inl (cI, 1024, .inl (gN Hi))), (aS, .inl (cI, 128, .inl (gN Sv))), (aI, .inl (cI, 60, .inl (gN In))), (aL, .inl (cC, 40, .inl (gN Le))), (aT, .inl (cI, 360, .inl To))] s.heap := hP
  have hl : lv_has ls 2 [(0, .ref h), (1, .int x)] := hl
  have hS : va_S A s.heap s.heap [] := va_S.rf
  refine lv_iload_n hx hb dX7_often_0 rfl (lv_at hl 1 rfl) ?_
  refine lv_bipush (v := nI 97) hx hb dX7_often_1 (by decide) ?_
  refine lv_bipush (v := nI 122) hx hb dX7_often_3 (by decide) ?_
  refine nv_kS (va_runS (As := [.int x, .int (nI 97), .int (nI 122)]) (rest := []) ⟨hx, hb, hml, hown, hts⟩ (c_X7_in l (x) (nI (97)) (nI (122))) (va_cwS 3 hts gX7_often_X7_in rfl rfl rfl (by decide +kernel) ⟨Nat.le_of_ble_eq_true rfl, Nat.le_of_ble_eq_true rfl⟩) (nv_pS hK trivial) rfl rfl hl.1 rfl (lv_room (Nat.le_of_ble_eq_true rfl)) dX7_often_5 ⟨Nat.zero_le _, Nat.zero_le _⟩) ?_
  refine nv_ifb_eq (tgt := 26) hx hb dX7_often_8 (by decide) (fun c1 => ?_) (fun c1 => ?_)
  · refine lv_aload_n hx hb dX7_often_26 rfl (lv_at hl 0 rfl) ?_
    refine lv_iconst (v := nI 1) hx hb dX7_often_27 (by decide) ?_
    refine nv_kM (va_runV (As := [.int (nI 1)]) (rest := []) ⟨hx, hb, hml, hown, hts⟩ (c_X7_fails l hD 1) (cwV 1 hts gX7_often_X7_fails rfl rfl rfl (by decide +kernel) ⟨Nat.le_of_ble_eq_true rfl, Nat.le_of_ble_eq_true rfl⟩) (nv_pV hK hP (va_recv hK.1 hP (ci := 9) (q0 := 0) rfl rfl)) rfl rfl hl.1 rfl (lv_room (Nat.le_of_ble_eq_true rfl)) dX7_often_28 ⟨Nat.zero_le _, Nat.zero_le _⟩) hS (fun H locs hP hS => ?_)
    have hP : va_P D vwCl [(h, .inr (9, [.ref aG, .ref aB, .ref aH, .int (nI ch), .ref aS, .int (nI hs), .ref aI, .int (nI ty), .int ea, .int ra, .int (nI wy), .int wd, .ref aL, .int (nI ln), .int (nI 1), .int (nI sp), .int (nI iw), .ref aT])), (aG, .inl (cI, 128, .inl (gN G))), (aB, .inl (cI, 128, .inl (gN B))), (aH, .inl (cI, 1024, .inl (gN Hi))), (aS, .inl (cI, 128, .inl (gN Sv))), (aI, .inl (cI, 60, .inl (gN In))), (aL, .inl (cC, 40, .inl (gN Le))), (aT, .inl (cI, 360, .inl To))] H := hP
    exact nv_retM hq hx hb hr hlocks (nar_i _) (by rw [if_neg c1]; rfl) hS hP (by rw [if_neg c1]) dX7_often_31
  · refine lv_aload_n hx hb dX7_often_11 rfl (lv_at hl 0 rfl) ?_
    refine lv_aload_n hx hb dX7_often_12 rfl (lv_at hl 0 rfl) ?_
    refine lv_iload_n hx hb dX7_often_13 rfl (lv_at hl 1 rfl) ?_
    refine lv_bipush (v := nI 97) hx hb dX7_often_14 (by decide) ?_
    refine lv_isub hx hb dX7_often_16 ?_
    refine nv_kS (va_runV (As := [.int (x - (nI (97)))]) (rest := [.ref h]) ⟨hx, hb, hml, hown, hts⟩ (c_X7_oftenness l (x - (nI (97)))) (cwV 1 hts gX7_often_X7_oftenness rfl rfl rfl (by decide +kernel) ⟨Nat.le_of_ble_eq_true rfl, Nat.le_of_ble_eq_true rfl⟩) (nv_pV hK hP (va_recv hK.1 hP (ci := 9) (q0 := 0) rfl rfl)) rfl rfl hl.1 rfl (lv_room (Nat.le_of_ble_eq_true rfl)) dX7_often_17 ⟨Nat.zero_le _, Nat.zero_le _⟩) ?_
    refine nv_kM (va_runV (As := [.int (nI (gOften G (x - (nI (97)))))]) (rest := []) ⟨hx, hb, hml, hown, hts⟩ (c_X7_done l hD (nI (gOften G (x - (nI (97)))))) (cwV 1 hts gX7_often_X7_done rfl rfl rfl (by decide +kernel) ⟨Nat.le_of_ble_eq_true rfl, Nat.le_of_ble_eq_true rfl⟩) (nv_pV hK hP (va_recv hK.1 hP (ci := 9) (q0 := 0) rfl rfl)) rfl rfl hl.1 rfl (lv_room (Nat.le_of_ble_eq_true rfl)) dX7_often_20 ⟨Nat.zero_le _, Nat.zero_le _⟩) hS (fun H locs hP hS => ?_)
    have hP : va_P D vwCl [(h, .inr (9, [.ref aG, .ref aB, .ref aH, .int (nI ch), .ref aS, .int (nI hs), .ref aI, .int (nI ty), .int ea, .int ra, .int (nI wy), .int wd, .ref aL, .int (nI ln), .int (nI 0), .int (nI sp), .int (nI iw), .ref aT])), (aG, .inl (cI, 128, .inl (gN G))), (aB, .inl (cI, 128, .inl (gN B))), (aH, .inl (cI, 1024, .inl (gN Hi))), (aS, .inl (cI, 128, .inl (gN Sv))), (aI, .inl (cI, 60, .inl (gN In))), (aL, .inl (cC, 40, .inl (gN Le))), (aT, .inl (cI, 360, .inl To))] H := hP
    refine lv_goto (tgt := 31) hx hb dX7_often_23 (by decide) ?_
    exact nv_retM hq hx hb hr hlocks (nar_i _) (by rw [if_pos c1]) hS hP (by rw [if_pos c1]) dX7_often_31

set_option maxHeartbeats 1000000 in
set_option maxRecDepth 100000 in
theorem c_X7_agrees (l : Launch) {D : va_G} {cI cC : ClassId} {h aG aB aH aS aI aL aT : Nat} {G B Hi Sv In Le : Nat → Nat} {To : Nat → Int32} {ch hs ty wy ln th sp iw : Nat} {ea ra wd : Int32} {A : Nat → Prop} (hD : ∀ (G B Hi Sv In Le : Nat → Nat) (To : Nat → Int32) (fs : List Value), va_D A [(h, .inr (9, fs)), (aG, .inl (cI, 128, .inl (gN G))), (aB, .inl (cI, 128, .inl (gN B))), (aH, .inl (cI, 1024, .inl (gN Hi))), (aS, .inl (cI, 128, .inl (gN Sv))), (aI, .inl (cI, 60, .inl (gN In))), (aL, .inl (cC, 40, .inl (gN Le))), (aT, .inl (cI, 360, .inl To))]) {b : Nat} (hG : gWf b G) (d g : Int32) (z : Nat) (c : Int32) (hz : z ≤ 1) : Met l yX7_agrees wsX7_agrees ({ frames := 2, cells := 0, slots := 0, locals := 45 }) (va_Pc [.ref h, .int d, .int g, .int (nI z), .int c] (sPre D [(cI, .int), (cC, .char)] [] (fun H => va_P D vwCl [(h, .inr (9, [.ref aG, .ref aB, .ref aH, .int (nI ch), .ref aS, .int (nI hs), .ref aI, .int (nI ty), .int ea, .int ra, .int (nI wy), .int wd, .ref aL, .int (nI ln), .int (nI th), .int (nI sp), .int (nI iw), .ref aT])), (aG, .inl (cI, 128, .inl (gN G))), (aB, .inl (cI, 128, .inl (gN B))), (aH, .inl (cI, 1024, .inl (gN Hi))), (aS, .inl (cI, 128, .inl (gN Sv))), (aI, .inl (cI, 60, .inl (gN In))), (aL, .inl (cC, 40, .inl (gN Le))), (aT, .inl (cI, 360, .inl To))] H))) (mQ D ((if iR d (G 0) then (if iR g 3 ∧ iR c 4 then nI (gAgree G (tN d) (tN g) z (tN c)) else 0) else 0)) [(h, .inr (9, [.ref aG, .ref aB, .ref aH, .int (nI ch), .ref aS, .int (nI hs), .ref aI, .int (nI ty), .int ea, .int ra, .int (nI wy), .int wd, .ref aL, .int (nI ln), .int (nI ((if iR d (G 0) then (if iR g 3 ∧ iR c 4 then 0 else 2) else 1))), .int (nI sp), .int (nI iw), .ref aT])), (aG, .inl (cI, 128, .inl (gN G))), (aB, .inl (cI, 128, .inl (gN B))), (aH, .inl (cI, 1024, .inl (gN Hi))), (aS, .inl (cI, 128, .inl (gN Sv))), (aI, .inl (cI, 60, .inl (gN In))), (aL, .inl (cC, 40, .inl (gN Le))), (aT, .inl (cI, 360, .inl To))] A) 0 0 A := by
  refine nv_met (cc := cX7_agrees) (maxL := 5) (ret := (some .int)) (by decide) rfl (Nat.le_of_ble_eq_true rfl) ?_
  intro p0 e0 s m0 args below meth c0 Q hq hargs hnA hpre ls hl
  obtain ⟨hx, hb, hr, hts, hown, hlocks, hml⟩ := hnA
  obtain ⟨hP, hK⟩ := hpre
  have hown : s.vm.findClass RX7 = some m0.cls := hown
  have hP : va_P D vwCl [(h, .inr (9, [.ref aG, .ref aB, .ref aH, .int (nI ch), .ref aS, .int (nI hs), .ref aI, .int (nI ty), .int ea, .int ra, .int (nI wy), .int wd, .ref aL, .int (nI ln), .int (nI th), .int (nI sp), .int (nI iw), .ref aT])), (aG, .inl (cI, 128, .inl (gN G))), (aB, .inl (cI, 128, .inl (gN B))), (aH, .inl (cI, 1024, .inl (gN Hi))), (aS, .inl (cI, 128, .inl (gN Sv))), (aI, .inl (cI, 60, .inl (gN In))), (aL, .inl (cC, 40, .inl (gN Le))), (aT, .inl (cI, 360, .inl To))] s.heap := hP
  have hl : lv_has ls 5 [(0, .ref h), (1, .int d), (2, .int g), (3, .int (nI z)), (4, .int c)] := hl
  have hS : va_S A s.heap s.heap [] := va_S.rf
  obtain ⟨g_b, g_k, g_0, g_1, g_2, g_e, g_d, g_t, g_y, g_s, g_h⟩ := id hG
  refine lv_aload_n hx hb dX7_agrees_0 rfl (lv_at hl 0 rfl) ?_
  refine lv_iload_n hx hb dX7_agrees_1 rfl (lv_at hl 1 rfl) ?_
  refine nv_kS (va_runV (As := [.int d]) (rest := []) ⟨hx, hb, hml, hown, hts⟩ (c_X7_isDoor l (d) (by omega)) (cwV 1 hts gX7_agrees_X7_isDoor rfl rfl rfl (by decide +kernel) ⟨Nat.le_of_ble_eq_true rfl, Nat.le_of_ble_eq_true rfl⟩) (nv_pV hK hP (va_recv hK.1 hP (ci := 9) (q0 := 0) rfl rfl)) rfl rfl hl.1 rfl (lv_room (Nat.le_of_ble_eq_true rfl)) dX7_agrees_2 ⟨Nat.zero_le _, Nat.zero_le _⟩) ?_
  refine nv_ifb_ne (tgt := 14) hx hb dX7_agrees_5 (by decide) (fun c1 => ?_) (fun c1 => ?_)
  · obtain ⟨dk, h_dk, rfl⟩ := iR_of c1 (by omega)
    have et_dk : tN (nI dk) = dk := tN_nI (by omega)
    refine lv_iload_n hx hb dX7_agrees_14 rfl (lv_at hl 2 rfl) ?_
    refine nv_kS (va_runS (As := [.int g]) (rest := []) ⟨hx, hb, hml, hown, hts⟩ (c_X7_isThird l (g)) (va_cwS 1 hts gX7_agrees_X7_isThird rfl rfl rfl (by decide +kernel) ⟨Nat.le_of_ble_eq_true rfl, Nat.le_of_ble_eq_true rfl⟩) (nv_pS hK trivial) rfl rfl hl.1 rfl (lv_room (Nat.le_of_ble_eq_true rfl)) dX7_agrees_15 ⟨Nat.zero_le _, Nat.zero_le _⟩) ?_
    refine nv_ifb_eq (tgt := 53) hx hb dX7_agrees_18 (by decide) (fun c2 => ?_) (fun c2 => ?_)
    · refine lv_aload_n hx hb dX7_agrees_53 rfl (lv_at hl 0 rfl) ?_
      refine lv_iconst (v := nI 2) hx hb dX7_agrees_54 (by decide) ?_
      refine nv_kM (va_runV (As := [.int (nI 2)]) (rest := []) ⟨hx, hb, hml, hown, hts⟩ (c_X7_fails l hD 2) (cwV 1 hts gX7_agrees_X7_fails rfl rfl rfl (by decide +kernel) ⟨Nat.le_of_ble_eq_true rfl, Nat.le_of_ble_eq_true rfl⟩) (nv_pV hK hP (va_recv hK.1 hP (ci := 9) (q0 := 0) rfl rfl)) rfl rfl hl.1 rfl (lv_room (Nat.le_of_ble_eq_true rfl)) dX7_agrees_55 ⟨Nat.zero_le _, Nat.zero_le _⟩) hS (fun H locs hP hS => ?_)
      have hP : va_P D vwCl [(h, .inr (9, [.ref aG, .ref aB, .ref aH, .int (nI ch), .ref aS, .int (nI hs), .ref aI, .int (nI ty), .int ea, .int ra, .int (nI wy), .int wd, .ref aL, .int (nI ln), .int (nI 2), .int (nI sp), .int (nI iw), .ref aT])), (aG, .inl (cI, 128, .inl (gN G))), (aB, .inl (cI, 128, .inl (gN B))), (aH, .inl (cI, 1024, .inl (gN Hi))), (aS, .inl (cI, 128, .inl (gN Sv))), (aI, .inl (cI, 60, .inl (gN In))), (aL, .inl (cC, 40, .inl (gN Le))), (aT, .inl (cI, 360, .inl To))] H := hP
      exact nv_retM hq hx hb hr hlocks (nar_i _) (by rw [if_pos c1, if_neg (fun q => c2 q.1)] <;> rfl) hS hP (by rw [if_pos c1, if_neg (fun q => c2 q.1)] <;> rfl) dX7_agrees_58
    · obtain ⟨gk, h_gk, rfl⟩ := iR_of c2 (by decide)
      have et_gk : tN (nI gk) = gk := tN_nI (by omega)
      refine lv_iload hx hb dX7_agrees_21 (lv_at hl 4 rfl) ?_
      refine nv_kS (va_runS (As := [.int c]) (rest := []) ⟨hx, hb, hml, hown, hts⟩ (c_X7_isCase l (c)) (va_cwS 1 hts gX7_agrees_X7_isCase rfl rfl rfl (by decide +kernel) ⟨Nat.le_of_ble_eq_true rfl, Nat.le_of_ble_eq_true rfl⟩) (nv_pS hK trivial) rfl rfl hl.1 rfl (lv_room (Nat.le_of_ble_eq_true rfl)) dX7_agrees_23 ⟨Nat.zero_le _, Nat.zero_le _⟩) ?_
      refine nv_ifb_eq (tgt := 53) hx hb dX7_agrees_26 (by decide) (fun c3 => ?_) (fun c3 => ?_)
      · refine lv_aload_n hx hb dX7_agrees_53 rfl (lv_at hl 0 rfl) ?_
        refine lv_iconst (v := nI 2) hx hb dX7_agrees_54 (by decide) ?_
        refine nv_kM (va_runV (As := [.int (nI 2)]) (rest := []) ⟨hx, hb, hml, hown, hts⟩ (c_X7_fails l hD 2) (cwV 1 hts gX7_agrees_X7_fails rfl rfl rfl (by decide +kernel) ⟨Nat.le_of_ble_eq_true rfl, Nat.le_of_ble_eq_true rfl⟩) (nv_pV hK hP (va_recv hK.1 hP (ci := 9) (q0 := 0) rfl rfl)) rfl rfl hl.1 rfl (lv_room (Nat.le_of_ble_eq_true rfl)) dX7_agrees_55 ⟨Nat.zero_le _, Nat.zero_le _⟩) hS (fun H locs hP hS => ?_)
        have hP : va_P D vwCl [(h, .inr (9, [.ref aG, .ref aB, .ref aH, .int (nI ch), .ref aS, .int (nI hs), .ref aI, .int (nI ty), .int ea, .int ra, .int (nI wy), .int wd, .ref aL, .int (nI ln), .int (nI 2), .int (nI sp), .int (nI iw), .ref aT])), (aG, .inl (cI, 128, .inl (gN G))), (aB, .inl (cI, 128, .inl (gN B))), (aH, .inl (cI, 1024, .inl (gN Hi))), (aS, .inl (cI, 128, .inl (gN Sv))), (aI, .inl (cI, 60, .inl (gN In))), (aL, .inl (cC, 40, .inl (gN Le))), (aT, .inl (cI, 360, .inl To))] H := hP
        exact nv_retM hq hx hb hr hlocks (nar_i _) (by rw [if_pos c1, if_neg (fun q => c3 q.2)] <;> rfl) hS hP (by rw [if_pos c1, if_neg (fun q => c3 q.2)] <;> rfl) dX7_agrees_58
      · obtain ⟨ck, h_ck, rfl⟩ := iR_of c3 (by decide)
        have et_ck : tN (nI ck) = ck := tN_nI (by omega)
        refine lv_aload_n hx hb dX7_agrees_29 rfl (lv_at hl 0 rfl) ?_
        refine lv_aload_n hx hb dX7_agrees_30 rfl (lv_at hl 0 rfl) ?_
        refine lv_iload_n hx hb dX7_agrees_31 rfl (lv_at hl 1 rfl) ?_
        refine lv_iload_n hx hb dX7_agrees_32 rfl (lv_at hl 2 rfl) ?_
        refine lv_iload_n hx hb dX7_agrees_33 rfl (lv_at hl 3 rfl) ?_
        refine nv_jn (α := Nat) (fun r => W p0 l e0 ({ frames := 2, cells := 0, slots := 0, locals := 45 }) s m0 args below meth c0 s.heap [] 0 0 Q (F0 m0 42 ls (.int (nI r) :: [.int (nI gk), .int (nI dk), .ref h, .ref h]))) ((if z = 0 then 0 else 1)) (fun r er => ?_) (fun hJ => ?_)
        · subst er
          refine nv_to z (nv_z01 hz) ?_
          refine lv_iload hx hb dX7_agrees_42 (lv_at hl 4 rfl) ?_
          refine nv_kS (va_runV (As := [.int (nI dk), .int (nI gk), .int (nI z), .int (nI ck)]) (rest := [.ref h]) ⟨hx, hb, hml, hown, hts⟩ (c_X7_agreement l hG dk gk z ck (by omega) (by omega) (by omega) (by omega)) (cwV 4 hts gX7_agrees_X7_agreement rfl rfl rfl (by decide +kernel) ⟨Nat.le_of_ble_eq_true rfl, Nat.le_of_ble_eq_true rfl⟩) (nv_pV hK hP (va_recv hK.1 hP (ci := 9) (q0 := 0) rfl rfl)) rfl rfl hl.1 rfl (lv_room (Nat.le_of_ble_eq_true rfl)) dX7_agrees_44 ⟨Nat.zero_le _, Nat.zero_le _⟩) ?_
          refine nv_kM (va_runV (As := [.int (nI (gAgree G dk gk z ck))]) (rest := []) ⟨hx, hb, hml, hown, hts⟩ (c_X7_done l hD (nI (gAgree G dk gk z ck))) (cwV 1 hts gX7_agrees_X7_done rfl rfl rfl (by decide +kernel) ⟨Nat.le_of_ble_eq_true rfl, Nat.le_of_ble_eq_true rfl⟩) (nv_pV hK hP (va_recv hK.1 hP (ci := 9) (q0 := 0) rfl rfl)) rfl rfl hl.1 rfl (lv_room (Nat.le_of_ble_eq_true rfl)) dX7_agrees_47 ⟨Nat.zero_le _, Nat.zero_le _⟩) hS (fun H locs hP hS => ?_)
          have hP : va_P D vwCl [(h, .inr (9, [.ref aG, .ref aB, .ref aH, .int (nI ch), .ref aS, .int (nI hs), .ref aI, .int (nI ty), .int ea, .int ra, .int (nI wy), .int wd, .ref aL, .int (nI ln), .int (nI 0), .int (nI sp), .int (nI iw), .ref aT])), (aG, .inl (cI, 128, .inl (gN G))), (aB, .inl (cI, 128, .inl (gN B))), (aH, .inl (cI, 1024, .inl (gN Hi))), (aS, .inl (cI, 128, .inl (gN Sv))), (aI, .inl (cI, 60, .inl (gN In))), (aL, .inl (cC, 40, .inl (gN Le))), (aT, .inl (cI, 360, .inl To))] H := hP
          refine lv_goto (tgt := 58) hx hb dX7_agrees_50 (by decide) ?_
          exact nv_retM hq hx hb hr hlocks (nar_i _) (by rw [if_pos c1, if_pos ⟨c2, c3⟩, et_dk, et_gk, et_ck]) hS hP (by rw [if_pos c1, if_pos ⟨c2, c3⟩]) dX7_agrees_58
        · refine nv_if_eq (tgt := 41) hx hb dX7_agrees_34 (by decide) (by omega) (fun c4 => ?_) (fun c4 => ?_)
          · refine lv_iconst (v := nI 0) hx hb dX7_agrees_41 (by decide) ?_
            exact hJ _ (if_pos c4).symm
          · refine lv_iconst (v := nI 1) hx hb dX7_agrees_37 (by decide) ?_
            refine lv_goto (tgt := 42) hx hb dX7_agrees_38 (by decide) ?_
            exact hJ _ (if_neg c4).symm
  · refine lv_aload_n hx hb dX7_agrees_8 rfl (lv_at hl 0 rfl) ?_
    refine lv_iconst (v := nI 1) hx hb dX7_agrees_9 (by decide) ?_
    refine nv_kM (va_runV (As := [.int (nI 1)]) (rest := []) ⟨hx, hb, hml, hown, hts⟩ (c_X7_fails l hD 1) (cwV 1 hts gX7_agrees_X7_fails rfl rfl rfl (by decide +kernel) ⟨Nat.le_of_ble_eq_true rfl, Nat.le_of_ble_eq_true rfl⟩) (nv_pV hK hP (va_recv hK.1 hP (ci := 9) (q0 := 0) rfl rfl)) rfl rfl hl.1 rfl (lv_room (Nat.le_of_ble_eq_true rfl)) dX7_agrees_10 ⟨Nat.zero_le _, Nat.zero_le _⟩) hS (fun H locs hP hS => ?_)
    have hP : va_P D vwCl [(h, .inr (9, [.ref aG, .ref aB, .ref aH, .int (nI ch), .ref aS, .int (nI hs), .ref aI, .int (nI ty), .int ea, .int ra, .int (nI wy), .int wd, .ref aL, .int (nI ln), .int (nI 1), .int (nI sp), .int (nI iw), .ref aT])), (aG, .inl (cI, 128, .inl (gN G))), (aB, .inl (cI, 128, .inl (gN B))), (aH, .inl (cI, 1024, .inl (gN Hi))), (aS, .inl (cI, 128, .inl (gN Sv))), (aI, .inl (cI, 60, .inl (gN In))), (aL, .inl (cC, 40, .inl (gN Le))), (aT, .inl (cI, 360, .inl To))] H := hP
    exact nv_retM hq hx hb hr hlocks (nar_i _) (by rw [if_neg c1] <;> rfl) hS hP (by rw [if_neg c1] <;> rfl) dX7_agrees_13

set_option maxHeartbeats 1000000 in
set_option maxRecDepth 100000 in
theorem c_X7_account (l : Launch) {D : va_G} {cI cC : ClassId} {h aG aB aH aS aI aL aT : Nat} {G B Hi Sv In Le : Nat → Nat} {To : Nat → Int32} {ch hs ty wy ln th sp iw : Nat} {ea ra wd : Int32} {A : Nat → Prop} (hD : ∀ (G B Hi Sv In Le : Nat → Nat) (To : Nat → Int32) (fs : List Value), va_D A [(h, .inr (9, fs)), (aG, .inl (cI, 128, .inl (gN G))), (aB, .inl (cI, 128, .inl (gN B))), (aH, .inl (cI, 1024, .inl (gN Hi))), (aS, .inl (cI, 128, .inl (gN Sv))), (aI, .inl (cI, 60, .inl (gN In))), (aL, .inl (cC, 40, .inl (gN Le))), (aT, .inl (cI, 360, .inl To))]) {b : Nat} (hG : gWf b G) (w : Int32) : Met l yX7_account wsX7_account ({ frames := 2, cells := 0, slots := 0, locals := 45 }) (va_Pc [.ref h, .int w] (sPre D [(cI, .int), (cC, .char)] [] (fun H => va_P D vwCl [(h, .inr (9, [.ref aG, .ref aB, .ref aH, .int (nI ch), .ref aS, .int (nI hs), .ref aI, .int (nI ty), .int ea, .int ra, .int (nI wy), .int wd, .ref aL, .int (nI ln), .int (nI th), .int (nI sp), .int (nI iw), .ref aT])), (aG, .inl (cI, 128, .inl (gN G))), (aB, .inl (cI, 128, .inl (gN B))), (aH, .inl (cI, 1024, .inl (gN Hi))), (aS, .inl (cI, 128, .inl (gN Sv))), (aI, .inl (cI, 60, .inl (gN In))), (aL, .inl (cC, 40, .inl (gN Le))), (aT, .inl (cI, 360, .inl To))] H))) (mQ D ((if iR w 13 then nI (qAcc G ty ch (tN w)) else 0)) [(h, .inr (9, [.ref aG, .ref aB, .ref aH, .int (nI ch), .ref aS, .int (nI hs), .ref aI, .int (nI ty), .int ea, .int ra, .int (nI wy), .int wd, .ref aL, .int (nI ln), .int (nI ((if iR w 13 then 0 else 1))), .int (nI sp), .int (nI iw), .ref aT])), (aG, .inl (cI, 128, .inl (gN G))), (aB, .inl (cI, 128, .inl (gN B))), (aH, .inl (cI, 1024, .inl (gN Hi))), (aS, .inl (cI, 128, .inl (gN Sv))), (aI, .inl (cI, 60, .inl (gN In))), (aL, .inl (cC, 40, .inl (gN Le))), (aT, .inl (cI, 360, .inl To))] A) 0 0 A := by
  refine nv_met (cc := cX7_account) (maxL := 2) (ret := (some .int)) (by decide) rfl (Nat.le_of_ble_eq_true rfl) ?_
  intro p0 e0 s m0 args below meth c0 Q hq hargs hnA hpre ls hl
  obtain ⟨hx, hb, hr, hts, hown, hlocks, hml⟩ := hnA
  obtain ⟨hP, hK⟩ := hpre
  have hown : s.vm.findClass RX7 = some m0.cls := hown
  have hP : va_P D vwCl [(h, .inr (9, [.ref aG, .ref aB, .ref aH, .int (nI ch), .ref aS, .int (nI hs), .ref aI, .int (nI ty), .int ea, .int ra, .int (nI wy), .int wd, .ref aL, .int (nI ln), .int (nI th), .int (nI sp), .int (nI iw), .ref aT])), (aG, .inl (cI, 128, .inl (gN G))), (aB, .inl (cI, 128, .inl (gN B))), (aH, .inl (cI, 1024, .inl (gN Hi))), (aS, .inl (cI, 128, .inl (gN Sv))), (aI, .inl (cI, 60, .inl (gN In))), (aL, .inl (cC, 40, .inl (gN Le))), (aT, .inl (cI, 360, .inl To))] s.heap := hP
  have hl : lv_has ls 2 [(0, .ref h), (1, .int w)] := hl
  have hS : va_S A s.heap s.heap [] := va_S.rf
  have in_X7 : ∀ w ∈ wsX70, w ∈ wsX7_account := by decide +kernel
  have fl_7 := hts (.fieldLink RX7 7 "DoorDialectModel" "g" "[I") (by decide +kernel)
  have fl_59 := hts (.fieldLink RX7 59 "DoorDialectModel" "changes" "I") (by decide +kernel)
  have fl_192 := hts (.fieldLink RX7 192 "DoorDialectModel" "typed" "I") (by decide +kernel)
  obtain ⟨g_b, g_k, g_0, g_1, g_2, g_e, g_d, g_t, g_y, g_s, g_h⟩ := id hG
  refine lv_iload_n hx hb dX7_account_0 rfl (lv_at hl 1 rfl) ?_
  by_cases c1 : iR (w) 13
  · obtain ⟨j2, hj3, rfl⟩ := iR_of c1 (by decide)
    rcases (show j2 = 0 ∨ j2 = 1 ∨ j2 = 2 ∨ j2 = 3 ∨ j2 = 4 ∨ j2 = 5 ∨ j2 = 6 ∨ j2 = 7 ∨ j2 = 8 ∨ j2 = 9 ∨ j2 = 10 ∨ j2 = 11 ∨ j2 = 12 by omega) with rfl | rfl | rfl | rfl | rfl | rfl | rfl | rfl | rfl | rfl | rfl | rfl | rfl
    · refine lv_tableIn (off := 67) (tgt := 68) hx hb dX7_account_1 (by decide +kernel) (by decide +kernel) rfl (by decide) ?_
      have et_w : tN (nI 0) = 0 := rfl
      refine lv_aload_n hx hb dX7_account_68 rfl (lv_at hl 0 rfl) ?_
      refine lv_aload_n hx hb dX7_account_69 rfl (lv_at hl 0 rfl) ?_
      refine va_get (D := D) (ci := 9) (v := .ref aG) (C := RX7) (T := TX7) (N := 18) hx hb hts in_X7 hown hK.1 hP 0 rfl rfl 0 (by decide) fl_7 (fun _ h9 => h9) rfl dX7_account_70 ?_
      refine lv_iload_n hx hb dX7_account_73 rfl (lv_at hl 1 rfl) ?_
      refine nv_gald (i := 0) hx hb hK.1 hP 1 0 rfl rfl (by first | omega | (simp only [gEndAt]; omega)) (by decide) dX7_account_74 ?_
      have q4 : G 0 < 2 ^ 20 := hG.lt (k := 0) (by omega)
      refine nv_kM (va_runV (As := [.int (nI (G 0))]) (rest := []) ⟨hx, hb, hml, hown, hts⟩ (c_X7_done l hD (nI (G 0))) (cwV 1 hts gX7_account_X7_done rfl rfl rfl (by decide +kernel) ⟨Nat.le_of_ble_eq_true rfl, Nat.le_of_ble_eq_true rfl⟩) (nv_pV hK hP (va_recv hK.1 hP (ci := 9) (q0 := 0) rfl rfl)) rfl rfl hl.1 rfl (lv_room (Nat.le_of_ble_eq_true rfl)) dX7_account_75 ⟨Nat.zero_le _, Nat.zero_le _⟩) hS (fun H locs hP hS => ?_)
      have hP : va_P D vwCl [(h, .inr (9, [.ref aG, .ref aB, .ref aH, .int (nI ch), .ref aS, .int (nI hs), .ref aI, .int (nI ty), .int ea, .int ra, .int (nI wy), .int wd, .ref aL, .int (nI ln), .int (nI 0), .int (nI sp), .int (nI iw), .ref aT])), (aG, .inl (cI, 128, .inl (gN G))), (aB, .inl (cI, 128, .inl (gN B))), (aH, .inl (cI, 1024, .inl (gN Hi))), (aS, .inl (cI, 128, .inl (gN Sv))), (aI, .inl (cI, 60, .inl (gN In))), (aL, .inl (cC, 40, .inl (gN Le))), (aT, .inl (cI, 360, .inl To))] H := hP
      exact nv_retM hq hx hb hr hlocks (nar_i _) (by rw [if_pos c1, et_w] <;> rfl) hS hP (by rw [if_pos c1]) dX7_account_78
    · refine lv_tableIn (off := 67) (tgt := 68) hx hb dX7_account_1 (by decide +kernel) (by decide +kernel) rfl (by decide) ?_
      have et_w : tN (nI 1) = 1 := rfl
      refine lv_aload_n hx hb dX7_account_68 rfl (lv_at hl 0 rfl) ?_
      refine lv_aload_n hx hb dX7_account_69 rfl (lv_at hl 0 rfl) ?_
      refine va_get (D := D) (ci := 9) (v := .ref aG) (C := RX7) (T := TX7) (N := 18) hx hb hts in_X7 hown hK.1 hP 0 rfl rfl 0 (by decide) fl_7 (fun _ h9 => h9) rfl dX7_account_70 ?_
      refine lv_iload_n hx hb dX7_account_73 rfl (lv_at hl 1 rfl) ?_
      refine nv_gald (i := 1) hx hb hK.1 hP 1 0 rfl rfl (by first | omega | (simp only [gEndAt]; omega)) (by decide) dX7_account_74 ?_
      have q5 : G 1 < 2 ^ 20 := hG.lt (k := 1) (by omega)
      refine nv_kM (va_runV (As := [.int (nI (G 1))]) (rest := []) ⟨hx, hb, hml, hown, hts⟩ (c_X7_done l hD (nI (G 1))) (cwV 1 hts gX7_account_X7_done rfl rfl rfl (by decide +kernel) ⟨Nat.le_of_ble_eq_true rfl, Nat.le_of_ble_eq_true rfl⟩) (nv_pV hK hP (va_recv hK.1 hP (ci := 9) (q0 := 0) rfl rfl)) rfl rfl hl.1 rfl (lv_room (Nat.le_of_ble_eq_true rfl)) dX7_account_75 ⟨Nat.zero_le _, Nat.zero_le _⟩) hS (fun H locs hP hS => ?_)
      have hP : va_P D vwCl [(h, .inr (9, [.ref aG, .ref aB, .ref aH, .int (nI ch), .ref aS, .int (nI hs), .ref aI, .int (nI ty), .int ea, .int ra, .int (nI wy), .int wd, .ref aL, .int (nI ln), .int (nI 0), .int (nI sp), .int (nI iw), .ref aT])), (aG, .inl (cI, 128, .inl (gN G))), (aB, .inl (cI, 128, .inl (gN B))), (aH, .inl (cI, 1024, .inl (gN Hi))), (aS, .inl (cI, 128, .inl (gN Sv))), (aI, .inl (cI, 60, .inl (gN In))), (aL, .inl (cC, 40, .inl (gN Le))), (aT, .inl (cI, 360, .inl To))] H := hP
      exact nv_retM hq hx hb hr hlocks (nar_i _) (by rw [if_pos c1, et_w] <;> rfl) hS hP (by rw [if_pos c1]) dX7_account_78
    · refine lv_tableIn (off := 67) (tgt := 68) hx hb dX7_account_1 (by decide +kernel) (by decide +kernel) rfl (by decide) ?_
      have et_w : tN (nI 2) = 2 := rfl
      refine lv_aload_n hx hb dX7_account_68 rfl (lv_at hl 0 rfl) ?_
      refine lv_aload_n hx hb dX7_account_69 rfl (lv_at hl 0 rfl) ?_
      refine va_get (D := D) (ci := 9) (v := .ref aG) (C := RX7) (T := TX7) (N := 18) hx hb hts in_X7 hown hK.1 hP 0 rfl rfl 0 (by decide) fl_7 (fun _ h9 => h9) rfl dX7_account_70 ?_
      refine lv_iload_n hx hb dX7_account_73 rfl (lv_at hl 1 rfl) ?_
      refine nv_gald (i := 2) hx hb hK.1 hP 1 0 rfl rfl (by first | omega | (simp only [gEndAt]; omega)) (by decide) dX7_account_74 ?_
      have q6 : G 2 < 2 ^ 20 := hG.lt (k := 2) (by omega)
      refine nv_kM (va_runV (As := [.int (nI (G 2))]) (rest := []) ⟨hx, hb, hml, hown, hts⟩ (c_X7_done l hD (nI (G 2))) (cwV 1 hts gX7_account_X7_done rfl rfl rfl (by decide +kernel) ⟨Nat.le_of_ble_eq_true rfl, Nat.le_of_ble_eq_true rfl⟩) (nv_pV hK hP (va_recv hK.1 hP (ci := 9) (q0 := 0) rfl rfl)) rfl rfl hl.1 rfl (lv_room (Nat.le_of_ble_eq_true rfl)) dX7_account_75 ⟨Nat.zero_le _, Nat.zero_le _⟩) hS (fun H locs hP hS => ?_)
      have hP : va_P D vwCl [(h, .inr (9, [.ref aG, .ref aB, .ref aH, .int (nI ch), .ref aS, .int (nI hs), .ref aI, .int (nI ty), .int ea, .int ra, .int (nI wy), .int wd, .ref aL, .int (nI ln), .int (nI 0), .int (nI sp), .int (nI iw), .ref aT])), (aG, .inl (cI, 128, .inl (gN G))), (aB, .inl (cI, 128, .inl (gN B))), (aH, .inl (cI, 1024, .inl (gN Hi))), (aS, .inl (cI, 128, .inl (gN Sv))), (aI, .inl (cI, 60, .inl (gN In))), (aL, .inl (cC, 40, .inl (gN Le))), (aT, .inl (cI, 360, .inl To))] H := hP
      exact nv_retM hq hx hb hr hlocks (nar_i _) (by rw [if_pos c1, et_w] <;> rfl) hS hP (by rw [if_pos c1]) dX7_account_78
    · refine lv_tableIn (off := 78) (tgt := 79) hx hb dX7_account_1 (by decide +kernel) (by decide +kernel) rfl (by decide) ?_
      have et_w : tN (nI 3) = 3 := rfl
      refine lv_aload_n hx hb dX7_account_79 rfl (lv_at hl 0 rfl) ?_
      refine lv_aload_n hx hb dX7_account_80 rfl (lv_at hl 0 rfl) ?_
      refine lv_bipush (v := nI 80) hx hb dX7_account_81 (by decide) ?_
      refine nv_kS (va_runV (As := [.int (nI 80)]) (rest := [.ref h]) ⟨hx, hb, hml, hown, hts⟩ (c_X7_many l 80 (by omega) (by omega)) (cwV 1 hts gX7_account_X7_many rfl rfl rfl (by decide +kernel) ⟨Nat.le_of_ble_eq_true rfl, Nat.le_of_ble_eq_true rfl⟩) (nv_pV hK hP (va_recv hK.1 hP (ci := 9) (q0 := 0) rfl rfl)) rfl rfl hl.1 rfl (lv_room (Nat.le_of_ble_eq_true rfl)) dX7_account_83 ⟨Nat.zero_le _, Nat.zero_le _⟩) ?_
      refine nv_kM (va_runV (As := [.int (nI (gMany G 80))]) (rest := []) ⟨hx, hb, hml, hown, hts⟩ (c_X7_done l hD (nI (gMany G 80))) (cwV 1 hts gX7_account_X7_done rfl rfl rfl (by decide +kernel) ⟨Nat.le_of_ble_eq_true rfl, Nat.le_of_ble_eq_true rfl⟩) (nv_pV hK hP (va_recv hK.1 hP (ci := 9) (q0 := 0) rfl rfl)) rfl rfl hl.1 rfl (lv_room (Nat.le_of_ble_eq_true rfl)) dX7_account_86 ⟨Nat.zero_le _, Nat.zero_le _⟩) hS (fun H locs hP hS => ?_)
      have hP : va_P D vwCl [(h, .inr (9, [.ref aG, .ref aB, .ref aH, .int (nI ch), .ref aS, .int (nI hs), .ref aI, .int (nI ty), .int ea, .int ra, .int (nI wy), .int wd, .ref aL, .int (nI ln), .int (nI 0), .int (nI sp), .int (nI iw), .ref aT])), (aG, .inl (cI, 128, .inl (gN G))), (aB, .inl (cI, 128, .inl (gN B))), (aH, .inl (cI, 1024, .inl (gN Hi))), (aS, .inl (cI, 128, .inl (gN Sv))), (aI, .inl (cI, 60, .inl (gN In))), (aL, .inl (cC, 40, .inl (gN Le))), (aT, .inl (cI, 360, .inl To))] H := hP
      exact nv_retM hq hx hb hr hlocks (nar_i _) (by rw [if_pos c1, et_w] <;> rfl) hS hP (by rw [if_pos c1]) dX7_account_89
    · refine lv_tableIn (off := 89) (tgt := 90) hx hb dX7_account_1 (by decide +kernel) (by decide +kernel) rfl (by decide) ?_
      have et_w : tN (nI 4) = 4 := rfl
      refine lv_aload_n hx hb dX7_account_90 rfl (lv_at hl 0 rfl) ?_
      refine lv_aload_n hx hb dX7_account_91 rfl (lv_at hl 0 rfl) ?_
      refine lv_bipush (v := nI 72) hx hb dX7_account_92 (by decide) ?_
      refine nv_kS (va_runV (As := [.int (nI 72)]) (rest := [.ref h]) ⟨hx, hb, hml, hown, hts⟩ (c_X7_many l 72 (by omega) (by omega)) (cwV 1 hts gX7_account_X7_many rfl rfl rfl (by decide +kernel) ⟨Nat.le_of_ble_eq_true rfl, Nat.le_of_ble_eq_true rfl⟩) (nv_pV hK hP (va_recv hK.1 hP (ci := 9) (q0 := 0) rfl rfl)) rfl rfl hl.1 rfl (lv_room (Nat.le_of_ble_eq_true rfl)) dX7_account_94 ⟨Nat.zero_le _, Nat.zero_le _⟩) ?_
      refine nv_kM (va_runV (As := [.int (nI (gMany G 72))]) (rest := []) ⟨hx, hb, hml, hown, hts⟩ (c_X7_done l hD (nI (gMany G 72))) (cwV 1 hts gX7_account_X7_done rfl rfl rfl (by decide +kernel) ⟨Nat.le_of_ble_eq_true rfl, Nat.le_of_ble_eq_true rfl⟩) (nv_pV hK hP (va_recv hK.1 hP (ci := 9) (q0 := 0) rfl rfl)) rfl rfl hl.1 rfl (lv_room (Nat.le_of_ble_eq_true rfl)) dX7_account_97 ⟨Nat.zero_le _, Nat.zero_le _⟩) hS (fun H locs hP hS => ?_)
      have hP : va_P D vwCl [(h, .inr (9, [.ref aG, .ref aB, .ref aH, .int (nI ch), .ref aS, .int (nI hs), .ref aI, .int (nI ty), .int ea, .int ra, .int (nI wy), .int wd, .ref aL, .int (nI ln), .int (nI 0), .int (nI sp), .int (nI iw), .ref aT])), (aG, .inl (cI, 128, .inl (gN G))), (aB, .inl (cI, 128, .inl (gN B))), (aH, .inl (cI, 1024, .inl (gN Hi))), (aS, .inl (cI, 128, .inl (gN Sv))), (aI, .inl (cI, 60, .inl (gN In))), (aL, .inl (cC, 40, .inl (gN Le))), (aT, .inl (cI, 360, .inl To))] H := hP
      exact nv_retM hq hx hb hr hlocks (nar_i _) (by rw [if_pos c1, et_w] <;> rfl) hS hP (by rw [if_pos c1]) dX7_account_100
    · refine lv_tableIn (off := 100) (tgt := 101) hx hb dX7_account_1 (by decide +kernel) (by decide +kernel) rfl (by decide) ?_
      have et_w : tN (nI 5) = 5 := rfl
      refine lv_aload_n hx hb dX7_account_101 rfl (lv_at hl 0 rfl) ?_
      refine lv_aload_n hx hb dX7_account_102 rfl (lv_at hl 0 rfl) ?_
      refine va_get (D := D) (ci := 9) (v := .ref aG) (C := RX7) (T := TX7) (N := 18) hx hb hts in_X7 hown hK.1 hP 0 rfl rfl 0 (by decide) fl_7 (fun _ h9 => h9) rfl dX7_account_103 ?_
      refine lv_iconst (v := nI 3) hx hb dX7_account_106 (by decide) ?_
      refine lv_iload_n hx hb dX7_account_107 rfl (lv_at hl 1 rfl) ?_
      refine nv_iadd hx hb dX7_account_108 ?_
      refine lv_iconst (v := nI 5) hx hb dX7_account_109 (by decide) ?_
      refine nv_isub hx hb dX7_account_110 (by omega) ?_
      refine nv_gald (i := 3 + 5 - 5) hx hb hK.1 hP 1 0 rfl rfl (by first | omega | (simp only [gEndAt]; omega)) (by decide) dX7_account_111 ?_
      have q7 : G (3 + 5 - 5) < 2 ^ 20 := hG.lt (k := 3 + 5 - 5) (by omega)
      refine nv_kM (va_runV (As := [.int (nI (G (3 + 5 - 5)))]) (rest := []) ⟨hx, hb, hml, hown, hts⟩ (c_X7_done l hD (nI (G (3 + 5 - 5)))) (cwV 1 hts gX7_account_X7_done rfl rfl rfl (by decide +kernel) ⟨Nat.le_of_ble_eq_true rfl, Nat.le_of_ble_eq_true rfl⟩) (nv_pV hK hP (va_recv hK.1 hP (ci := 9) (q0 := 0) rfl rfl)) rfl rfl hl.1 rfl (lv_room (Nat.le_of_ble_eq_true rfl)) dX7_account_112 ⟨Nat.zero_le _, Nat.zero_le _⟩) hS (fun H locs hP hS => ?_)
      have hP : va_P D vwCl [(h, .inr (9, [.ref aG, .ref aB, .ref aH, .int (nI ch), .ref aS, .int (nI hs), .ref aI, .int (nI ty), .int ea, .int ra, .int (nI wy), .int wd, .ref aL, .int (nI ln), .int (nI 0), .int (nI sp), .int (nI iw), .ref aT])), (aG, .inl (cI, 128, .inl (gN G))), (aB, .inl (cI, 128, .inl (gN B))), (aH, .inl (cI, 1024, .inl (gN Hi))), (aS, .inl (cI, 128, .inl (gN Sv))), (aI, .inl (cI, 60, .inl (gN In))), (aL, .inl (cC, 40, .inl (gN Le))), (aT, .inl (cI, 360, .inl To))] H := hP
      exact nv_retM hq hx hb hr hlocks (nar_i _) (by rw [if_pos c1, et_w] <;> rfl) hS hP (by rw [if_pos c1]) dX7_account_115
    · refine lv_tableIn (off := 100) (tgt := 101) hx hb dX7_account_1 (by decide +kernel) (by decide +kernel) rfl (by decide) ?_
      have et_w : tN (nI 6) = 6 := rfl
      refine lv_aload_n hx hb dX7_account_101 rfl (lv_at hl 0 rfl) ?_
      refine lv_aload_n hx hb dX7_account_102 rfl (lv_at hl 0 rfl) ?_
      refine va_get (D := D) (ci := 9) (v := .ref aG) (C := RX7) (T := TX7) (N := 18) hx hb hts in_X7 hown hK.1 hP 0 rfl rfl 0 (by decide) fl_7 (fun _ h9 => h9) rfl dX7_account_103 ?_
      refine lv_iconst (v := nI 3) hx hb dX7_account_106 (by decide) ?_
      refine lv_iload_n hx hb dX7_account_107 rfl (lv_at hl 1 rfl) ?_
      refine nv_iadd hx hb dX7_account_108 ?_
      refine lv_iconst (v := nI 5) hx hb dX7_account_109 (by decide) ?_
      refine nv_isub hx hb dX7_account_110 (by omega) ?_
      refine nv_gald (i := 3 + 6 - 5) hx hb hK.1 hP 1 0 rfl rfl (by first | omega | (simp only [gEndAt]; omega)) (by decide) dX7_account_111 ?_
      have q8 : G (3 + 6 - 5) < 2 ^ 20 := hG.lt (k := 3 + 6 - 5) (by omega)
      refine nv_kM (va_runV (As := [.int (nI (G (3 + 6 - 5)))]) (rest := []) ⟨hx, hb, hml, hown, hts⟩ (c_X7_done l hD (nI (G (3 + 6 - 5)))) (cwV 1 hts gX7_account_X7_done rfl rfl rfl (by decide +kernel) ⟨Nat.le_of_ble_eq_true rfl, Nat.le_of_ble_eq_true rfl⟩) (nv_pV hK hP (va_recv hK.1 hP (ci := 9) (q0 := 0) rfl rfl)) rfl rfl hl.1 rfl (lv_room (Nat.le_of_ble_eq_true rfl)) dX7_account_112 ⟨Nat.zero_le _, Nat.zero_le _⟩) hS (fun H locs hP hS => ?_)
      have hP : va_P D vwCl [(h, .inr (9, [.ref aG, .ref aB, .ref aH, .int (nI ch), .ref aS, .int (nI hs), .ref aI, .int (nI ty), .int ea, .int ra, .int (nI wy), .int wd, .ref aL, .int (nI ln), .int (nI 0), .int (nI sp), .int (nI iw), .ref aT])), (aG, .inl (cI, 128, .inl (gN G))), (aB, .inl (cI, 128, .inl (gN B))), (aH, .inl (cI, 1024, .inl (gN Hi))), (aS, .inl (cI, 128, .inl (gN Sv))), (aI, .inl (cI, 60, .inl (gN In))), (aL, .inl (cC, 40, .inl (gN Le))), (aT, .inl (cI, 360, .inl To))] H := hP
      exact nv_retM hq hx hb hr hlocks (nar_i _) (by rw [if_pos c1, et_w] <;> rfl) hS hP (by rw [if_pos c1]) dX7_account_115
    · refine lv_tableIn (off := 100) (tgt := 101) hx hb dX7_account_1 (by decide +kernel) (by decide +kernel) rfl (by decide) ?_
      have et_w : tN (nI 7) = 7 := rfl
      refine lv_aload_n hx hb dX7_account_101 rfl (lv_at hl 0 rfl) ?_
      refine lv_aload_n hx hb dX7_account_102 rfl (lv_at hl 0 rfl) ?_
      refine va_get (D := D) (ci := 9) (v := .ref aG) (C := RX7) (T := TX7) (N := 18) hx hb hts in_X7 hown hK.1 hP 0 rfl rfl 0 (by decide) fl_7 (fun _ h9 => h9) rfl dX7_account_103 ?_
      refine lv_iconst (v := nI 3) hx hb dX7_account_106 (by decide) ?_
      refine lv_iload_n hx hb dX7_account_107 rfl (lv_at hl 1 rfl) ?_
      refine nv_iadd hx hb dX7_account_108 ?_
      refine lv_iconst (v := nI 5) hx hb dX7_account_109 (by decide) ?_
      refine nv_isub hx hb dX7_account_110 (by omega) ?_
      refine nv_gald (i := 3 + 7 - 5) hx hb hK.1 hP 1 0 rfl rfl (by first | omega | (simp only [gEndAt]; omega)) (by decide) dX7_account_111 ?_
      have q9 : G (3 + 7 - 5) < 2 ^ 20 := hG.lt (k := 3 + 7 - 5) (by omega)
      refine nv_kM (va_runV (As := [.int (nI (G (3 + 7 - 5)))]) (rest := []) ⟨hx, hb, hml, hown, hts⟩ (c_X7_done l hD (nI (G (3 + 7 - 5)))) (cwV 1 hts gX7_account_X7_done rfl rfl rfl (by decide +kernel) ⟨Nat.le_of_ble_eq_true rfl, Nat.le_of_ble_eq_true rfl⟩) (nv_pV hK hP (va_recv hK.1 hP (ci := 9) (q0 := 0) rfl rfl)) rfl rfl hl.1 rfl (lv_room (Nat.le_of_ble_eq_true rfl)) dX7_account_112 ⟨Nat.zero_le _, Nat.zero_le _⟩) hS (fun H locs hP hS => ?_)
      have hP : va_P D vwCl [(h, .inr (9, [.ref aG, .ref aB, .ref aH, .int (nI ch), .ref aS, .int (nI hs), .ref aI, .int (nI ty), .int ea, .int ra, .int (nI wy), .int wd, .ref aL, .int (nI ln), .int (nI 0), .int (nI sp), .int (nI iw), .ref aT])), (aG, .inl (cI, 128, .inl (gN G))), (aB, .inl (cI, 128, .inl (gN B))), (aH, .inl (cI, 1024, .inl (gN Hi))), (aS, .inl (cI, 128, .inl (gN Sv))), (aI, .inl (cI, 60, .inl (gN In))), (aL, .inl (cC, 40, .inl (gN Le))), (aT, .inl (cI, 360, .inl To))] H := hP
      exact nv_retM hq hx hb hr hlocks (nar_i _) (by rw [if_pos c1, et_w] <;> rfl) hS hP (by rw [if_pos c1]) dX7_account_115
    · refine lv_tableIn (off := 100) (tgt := 101) hx hb dX7_account_1 (by decide +kernel) (by decide +kernel) rfl (by decide) ?_
      have et_w : tN (nI 8) = 8 := rfl
      refine lv_aload_n hx hb dX7_account_101 rfl (lv_at hl 0 rfl) ?_
      refine lv_aload_n hx hb dX7_account_102 rfl (lv_at hl 0 rfl) ?_
      refine va_get (D := D) (ci := 9) (v := .ref aG) (C := RX7) (T := TX7) (N := 18) hx hb hts in_X7 hown hK.1 hP 0 rfl rfl 0 (by decide) fl_7 (fun _ h9 => h9) rfl dX7_account_103 ?_
      refine lv_iconst (v := nI 3) hx hb dX7_account_106 (by decide) ?_
      refine lv_iload_n hx hb dX7_account_107 rfl (lv_at hl 1 rfl) ?_
      refine nv_iadd hx hb dX7_account_108 ?_
      refine lv_iconst (v := nI 5) hx hb dX7_account_109 (by decide) ?_
      refine nv_isub hx hb dX7_account_110 (by omega) ?_
      refine nv_gald (i := 3 + 8 - 5) hx hb hK.1 hP 1 0 rfl rfl (by first | omega | (simp only [gEndAt]; omega)) (by decide) dX7_account_111 ?_
      have q10 : G (3 + 8 - 5) < 2 ^ 20 := hG.lt (k := 3 + 8 - 5) (by omega)
      refine nv_kM (va_runV (As := [.int (nI (G (3 + 8 - 5)))]) (rest := []) ⟨hx, hb, hml, hown, hts⟩ (c_X7_done l hD (nI (G (3 + 8 - 5)))) (cwV 1 hts gX7_account_X7_done rfl rfl rfl (by decide +kernel) ⟨Nat.le_of_ble_eq_true rfl, Nat.le_of_ble_eq_true rfl⟩) (nv_pV hK hP (va_recv hK.1 hP (ci := 9) (q0 := 0) rfl rfl)) rfl rfl hl.1 rfl (lv_room (Nat.le_of_ble_eq_true rfl)) dX7_account_112 ⟨Nat.zero_le _, Nat.zero_le _⟩) hS (fun H locs hP hS => ?_)
      have hP : va_P D vwCl [(h, .inr (9, [.ref aG, .ref aB, .ref aH, .int (nI ch), .ref aS, .int (nI hs), .ref aI, .int (nI ty), .int ea, .int ra, .int (nI wy), .int wd, .ref aL, .int (nI ln), .int (nI 0), .int (nI sp), .int (nI iw), .ref aT])), (aG, .inl (cI, 128, .inl (gN G))), (aB, .inl (cI, 128, .inl (gN B))), (aH, .inl (cI, 1024, .inl (gN Hi))), (aS, .inl (cI, 128, .inl (gN Sv))), (aI, .inl (cI, 60, .inl (gN In))), (aL, .inl (cC, 40, .inl (gN Le))), (aT, .inl (cI, 360, .inl To))] H := hP
      exact nv_retM hq hx hb hr hlocks (nar_i _) (by rw [if_pos c1, et_w] <;> rfl) hS hP (by rw [if_pos c1]) dX7_account_115
    · refine lv_tableIn (off := 100) (tgt := 101) hx hb dX7_account_1 (by decide +kernel) (by decide +kernel) rfl (by decide) ?_
      have et_w : tN (nI 9) = 9 := rfl
      refine lv_aload_n hx hb dX7_account_101 rfl (lv_at hl 0 rfl) ?_
      refine lv_aload_n hx hb dX7_account_102 rfl (lv_at hl 0 rfl) ?_
      refine va_get (D := D) (ci := 9) (v := .ref aG) (C := RX7) (T := TX7) (N := 18) hx hb hts in_X7 hown hK.1 hP 0 rfl rfl 0 (by decide) fl_7 (fun _ h9 => h9) rfl dX7_account_103 ?_
      refine lv_iconst (v := nI 3) hx hb dX7_account_106 (by decide) ?_
      refine lv_iload_n hx hb dX7_account_107 rfl (lv_at hl 1 rfl) ?_
      refine nv_iadd hx hb dX7_account_108 ?_
      refine lv_iconst (v := nI 5) hx hb dX7_account_109 (by decide) ?_
      refine nv_isub hx hb dX7_account_110 (by omega) ?_
      refine nv_gald (i := 3 + 9 - 5) hx hb hK.1 hP 1 0 rfl rfl (by first | omega | (simp only [gEndAt]; omega)) (by decide) dX7_account_111 ?_
      have q11 : G (3 + 9 - 5) < 2 ^ 20 := hG.lt (k := 3 + 9 - 5) (by omega)
      refine nv_kM (va_runV (As := [.int (nI (G (3 + 9 - 5)))]) (rest := []) ⟨hx, hb, hml, hown, hts⟩ (c_X7_done l hD (nI (G (3 + 9 - 5)))) (cwV 1 hts gX7_account_X7_done rfl rfl rfl (by decide +kernel) ⟨Nat.le_of_ble_eq_true rfl, Nat.le_of_ble_eq_true rfl⟩) (nv_pV hK hP (va_recv hK.1 hP (ci := 9) (q0 := 0) rfl rfl)) rfl rfl hl.1 rfl (lv_room (Nat.le_of_ble_eq_true rfl)) dX7_account_112 ⟨Nat.zero_le _, Nat.zero_le _⟩) hS (fun H locs hP hS => ?_)
      have hP : va_P D vwCl [(h, .inr (9, [.ref aG, .ref aB, .ref aH, .int (nI ch), .ref aS, .int (nI hs), .ref aI, .int (nI ty), .int ea, .int ra, .int (nI wy), .int wd, .ref aL, .int (nI ln), .int (nI 0), .int (nI sp), .int (nI iw), .ref aT])), (aG, .inl (cI, 128, .inl (gN G))), (aB, .inl (cI, 128, .inl (gN B))), (aH, .inl (cI, 1024, .inl (gN Hi))), (aS, .inl (cI, 128, .inl (gN Sv))), (aI, .inl (cI, 60, .inl (gN In))), (aL, .inl (cC, 40, .inl (gN Le))), (aT, .inl (cI, 360, .inl To))] H := hP
      exact nv_retM hq hx hb hr hlocks (nar_i _) (by rw [if_pos c1, et_w] <;> rfl) hS hP (by rw [if_pos c1]) dX7_account_115
    · refine lv_tableIn (off := 115) (tgt := 116) hx hb dX7_account_1 (by decide +kernel) (by decide +kernel) rfl (by decide) ?_
      have et_w : tN (nI 10) = 10 := rfl
      refine lv_aload_n hx hb dX7_account_116 rfl (lv_at hl 0 rfl) ?_
      refine lv_aload_n hx hb dX7_account_117 rfl (lv_at hl 0 rfl) ?_
      refine nv_kS (va_runV (As := []) (rest := [.ref h]) ⟨hx, hb, hml, hown, hts⟩ (c_X7_unlike l) (cwV 0 hts gX7_account_X7_unlike rfl rfl rfl (by decide +kernel) ⟨Nat.le_of_ble_eq_true rfl, Nat.le_of_ble_eq_true rfl⟩) (nv_pV hK hP (va_recv hK.1 hP (ci := 9) (q0 := 0) rfl rfl)) rfl rfl hl.1 rfl (lv_room (Nat.le_of_ble_eq_true rfl)) dX7_account_118 ⟨Nat.zero_le _, Nat.zero_le _⟩) ?_
      refine nv_kM (va_runV (As := [.int (nI (gUnlike G))]) (rest := []) ⟨hx, hb, hml, hown, hts⟩ (c_X7_done l hD (nI (gUnlike G))) (cwV 1 hts gX7_account_X7_done rfl rfl rfl (by decide +kernel) ⟨Nat.le_of_ble_eq_true rfl, Nat.le_of_ble_eq_true rfl⟩) (nv_pV hK hP (va_recv hK.1 hP (ci := 9) (q0 := 0) rfl rfl)) rfl rfl hl.1 rfl (lv_room (Nat.le_of_ble_eq_true rfl)) dX7_account_121 ⟨Nat.zero_le _, Nat.zero_le _⟩) hS (fun H locs hP hS => ?_)
      have hP : va_P D vwCl [(h, .inr (9, [.ref aG, .ref aB, .ref aH, .int (nI ch), .ref aS, .int (nI hs), .ref aI, .int (nI ty), .int ea, .int ra, .int (nI wy), .int wd, .ref aL, .int (nI ln), .int (nI 0), .int (nI sp), .int (nI iw), .ref aT])), (aG, .inl (cI, 128, .inl (gN G))), (aB, .inl (cI, 128, .inl (gN B))), (aH, .inl (cI, 1024, .inl (gN Hi))), (aS, .inl (cI, 128, .inl (gN Sv))), (aI, .inl (cI, 60, .inl (gN In))), (aL, .inl (cC, 40, .inl (gN Le))), (aT, .inl (cI, 360, .inl To))] H := hP
      exact nv_retM hq hx hb hr hlocks (nar_i _) (by rw [if_pos c1, et_w] <;> rfl) hS hP (by rw [if_pos c1]) dX7_account_124
    · refine lv_tableIn (off := 124) (tgt := 125) hx hb dX7_account_1 (by decide +kernel) (by decide +kernel) rfl (by decide) ?_
      have et_w : tN (nI 11) = 11 := rfl
      refine lv_aload_n hx hb dX7_account_125 rfl (lv_at hl 0 rfl) ?_
      refine lv_aload_n hx hb dX7_account_126 rfl (lv_at hl 0 rfl) ?_
      refine va_get (D := D) (ci := 9) (v := .int (nI ty)) (C := RX7) (T := TX7) (N := 18) hx hb hts in_X7 hown hK.1 hP 0 rfl rfl 7 (by decide) fl_192 (fun _ h9 => h9) rfl dX7_account_127 ?_
      refine nv_kM (va_runV (As := [.int (nI ty)]) (rest := []) ⟨hx, hb, hml, hown, hts⟩ (c_X7_done l hD (nI (ty))) (cwV 1 hts gX7_account_X7_done rfl rfl rfl (by decide +kernel) ⟨Nat.le_of_ble_eq_true rfl, Nat.le_of_ble_eq_true rfl⟩) (nv_pV hK hP (va_recv hK.1 hP (ci := 9) (q0 := 0) rfl rfl)) rfl rfl hl.1 rfl (lv_room (Nat.le_of_ble_eq_true rfl)) dX7_account_130 ⟨Nat.zero_le _, Nat.zero_le _⟩) hS (fun H locs hP hS => ?_)
      have hP : va_P D vwCl [(h, .inr (9, [.ref aG, .ref aB, .ref aH, .int (nI ch), .ref aS, .int (nI hs), .ref aI, .int (nI ty), .int ea, .int ra, .int (nI wy), .int wd, .ref aL, .int (nI ln), .int (nI 0), .int (nI sp), .int (nI iw), .ref aT])), (aG, .inl (cI, 128, .inl (gN G))), (aB, .inl (cI, 128, .inl (gN B))), (aH, .inl (cI, 1024, .inl (gN Hi))), (aS, .inl (cI, 128, .inl (gN Sv))), (aI, .inl (cI, 60, .inl (gN In))), (aL, .inl (cC, 40, .inl (gN Le))), (aT, .inl (cI, 360, .inl To))] H := hP
      exact nv_retM hq hx hb hr hlocks (nar_i _) (by rw [if_pos c1, et_w] <;> rfl) hS hP (by rw [if_pos c1]) dX7_account_133
    · refine lv_tableIn (off := 133) (tgt := 134) hx hb dX7_account_1 (by decide +kernel) (by decide +kernel) rfl (by decide) ?_
      have et_w : tN (nI 12) = 12 := rfl
      refine lv_aload_n hx hb dX7_account_134 rfl (lv_at hl 0 rfl) ?_
      refine lv_aload_n hx hb dX7_account_135 rfl (lv_at hl 0 rfl) ?_
      refine va_get (D := D) (ci := 9) (v := .int (nI ch)) (C := RX7) (T := TX7) (N := 18) hx hb hts in_X7 hown hK.1 hP 0 rfl rfl 3 (by decide) fl_59 (fun _ h9 => h9) rfl dX7_account_136 ?_
      refine nv_kM (va_runV (As := [.int (nI ch)]) (rest := []) ⟨hx, hb, hml, hown, hts⟩ (c_X7_done l hD (nI (ch))) (cwV 1 hts gX7_account_X7_done rfl rfl rfl (by decide +kernel) ⟨Nat.le_of_ble_eq_true rfl, Nat.le_of_ble_eq_true rfl⟩) (nv_pV hK hP (va_recv hK.1 hP (ci := 9) (q0 := 0) rfl rfl)) rfl rfl hl.1 rfl (lv_room (Nat.le_of_ble_eq_true rfl)) dX7_account_139 ⟨Nat.zero_le _, Nat.zero_le _⟩) hS (fun H locs hP hS => ?_)
      have hP : va_P D vwCl [(h, .inr (9, [.ref aG, .ref aB, .ref aH, .int (nI ch), .ref aS, .int (nI hs), .ref aI, .int (nI ty), .int ea, .int ra, .int (nI wy), .int wd, .ref aL, .int (nI ln), .int (nI 0), .int (nI sp), .int (nI iw), .ref aT])), (aG, .inl (cI, 128, .inl (gN G))), (aB, .inl (cI, 128, .inl (gN B))), (aH, .inl (cI, 1024, .inl (gN Hi))), (aS, .inl (cI, 128, .inl (gN Sv))), (aI, .inl (cI, 60, .inl (gN In))), (aL, .inl (cC, 40, .inl (gN Le))), (aT, .inl (cI, 360, .inl To))] H := hP
      exact nv_retM hq hx hb hr hlocks (nar_i _) (by rw [if_pos c1, et_w] <;> rfl) hS hP (by rw [if_pos c1]) dX7_account_142
  · refine lv_tableOut (tgt := 143) hx hb dX7_account_1 (by simp only [iR] at c1; omega) (by decide) ?_
    refine lv_aload_n hx hb dX7_account_143 rfl (lv_at hl 0 rfl) ?_
    refine lv_iconst (v := nI 1) hx hb dX7_account_144 (by decide) ?_
    refine nv_kM (va_runV (As := [.int (nI 1)]) (rest := []) ⟨hx, hb, hml, hown, hts⟩ (c_X7_fails l hD 1) (cwV 1 hts gX7_account_X7_fails rfl rfl rfl (by decide +kernel) ⟨Nat.le_of_ble_eq_true rfl, Nat.le_of_ble_eq_true rfl⟩) (nv_pV hK hP (va_recv hK.1 hP (ci := 9) (q0 := 0) rfl rfl)) rfl rfl hl.1 rfl (lv_room (Nat.le_of_ble_eq_true rfl)) dX7_account_145 ⟨Nat.zero_le _, Nat.zero_le _⟩) hS (fun H locs hP hS => ?_)
    have hP : va_P D vwCl [(h, .inr (9, [.ref aG, .ref aB, .ref aH, .int (nI ch), .ref aS, .int (nI hs), .ref aI, .int (nI ty), .int ea, .int ra, .int (nI wy), .int wd, .ref aL, .int (nI ln), .int (nI 1), .int (nI sp), .int (nI iw), .ref aT])), (aG, .inl (cI, 128, .inl (gN G))), (aB, .inl (cI, 128, .inl (gN B))), (aH, .inl (cI, 1024, .inl (gN Hi))), (aS, .inl (cI, 128, .inl (gN Sv))), (aI, .inl (cI, 60, .inl (gN In))), (aL, .inl (cC, 40, .inl (gN Le))), (aT, .inl (cI, 360, .inl To))] H := hP
    exact nv_retM hq hx hb hr hlocks (nar_i _) (by rw [if_neg c1] <;> rfl) hS hP (by rw [if_neg c1]) dX7_account_148

set_option maxHeartbeats 1000000 in
set_option maxRecDepth 100000 in
theorem c_X7_refusal (l : Launch) {D : va_G} {cI cC : ClassId} {h aG aB aH aS aI aL aT : Nat} {G B Hi Sv In Le : Nat → Nat} {To : Nat → Int32} {ch hs ty wy ln th sp iw : Nat} {ea ra wd : Int32} {A : Nat → Prop} (hD : ∀ (G B Hi Sv In Le : Nat → Nat) (To : Nat → Int32) (fs : List Value), va_D A [(h, .inr (9, fs)), (aG, .inl (cI, 128, .inl (gN G))), (aB, .inl (cI, 128, .inl (gN B))), (aH, .inl (cI, 1024, .inl (gN Hi))), (aS, .inl (cI, 128, .inl (gN Sv))), (aI, .inl (cI, 60, .inl (gN In))), (aL, .inl (cC, 40, .inl (gN Le))), (aT, .inl (cI, 360, .inl To))]) (z : Nat) (hz : z ≤ 1) (hwy : wy < 2 ^ 31) : Met l yX7_refusal wsX7_refusal ({ frames := 1, cells := 0, slots := 0, locals := 21 }) (va_Pc [.ref h, .int (nI z)] (sPre D [(cI, .int), (cC, .char)] [] (fun H => va_P D vwCl [(h, .inr (9, [.ref aG, .ref aB, .ref aH, .int (nI ch), .ref aS, .int (nI hs), .ref aI, .int (nI ty), .int ea, .int ra, .int (nI wy), .int wd, .ref aL, .int (nI ln), .int (nI th), .int (nI sp), .int (nI iw), .ref aT])), (aG, .inl (cI, 128, .inl (gN G))), (aB, .inl (cI, 128, .inl (gN B))), (aH, .inl (cI, 1024, .inl (gN Hi))), (aS, .inl (cI, 128, .inl (gN Sv))), (aI, .inl (cI, 60, .inl (gN In))), (aL, .inl (cC, 40, .inl (gN Le))), (aT, .inl (cI, 360, .inl To))] H))) (mQ D ((if wy = 0 then 0 else (if z = 0 then nI wy else wd))) [(h, .inr (9, [.ref aG, .ref aB, .ref aH, .int (nI ch), .ref aS, .int (nI hs), .ref aI, .int (nI ty), .int ea, .int ra, .int (nI wy), .int wd, .ref aL, .int (nI ln), .int (nI ((if wy = 0 then 1 else 0))), .int (nI sp), .int (nI iw), .ref aT])), (aG, .inl (cI, 128, .inl (gN G))), (aB, .inl (cI, 128, .inl (gN B))), (aH, .inl (cI, 1024, .inl (gN Hi))), (aS, .inl (cI, 128, .inl (gN Sv))), (aI, .inl (cI, 60, .inl (gN In))), (aL, .inl (cC, 40, .inl (gN Le))), (aT, .inl (cI, 360, .inl To))] A) 0 0 A := by
  refine nv_met (cc := cX7_refusal) (maxL := 2) (ret := (some .int)) (by decide) rfl (Nat.le_of_ble_eq_true rfl) ?_
  intro p0 e0 s m0 args below meth c0 Q hq hargs hnA hpre ls hl
  obtain ⟨hx, hb, hr, hts, hown, hlocks, hml⟩ := hnA
  obtain ⟨hP, hK⟩ := hpre
  have hown : s.vm.findClass RX7 = some m0.cls := hown
  have hP : va_P D vwCl [(h, .inr (9, [.ref aG, .ref aB, .ref aH, .int (nI ch), .ref aS, .int (nI hs), .ref aI, .int (nI ty), .int ea, .int ra, .int (nI wy), .int wd, .ref aL, .int (nI ln), .int (nI th), .int (nI sp), .int (nI iw), .ref aT])), (aG, .inl (cI, 128, .inl (gN G))), (aB, .inl (cI, 128, .inl (gN B))), (aH, .inl (cI, 1024, .inl (gN Hi))), (aS, .inl (cI, 128, .inl (gN Sv))), (aI, .inl (cI, 60, .inl (gN In))), (aL, .inl (cC, 40, .inl (gN Le))), (aT, .inl (cI, 360, .inl To))] s.heap := hP
  have hl : lv_has ls 2 [(0, .ref h), (1, .int (nI z))] := hl
  have hS : va_S A s.heap s.heap [] := va_S.rf
  have in_X7 : ∀ w ∈ wsX70, w ∈ wsX7_refusal := by decide +kernel
  have fl_45 := hts (.fieldLink RX7 45 "DoorDialectModel" "why" "I") (by decide +kernel)
  have fl_48 := hts (.fieldLink RX7 48 "DoorDialectModel" "whyDetail" "I") (by decide +kernel)
  refine lv_aload_n hx hb dX7_refusal_0 rfl (lv_at hl 0 rfl) ?_
  refine va_get (D := D) (ci := 9) (v := .int (nI wy)) (C := RX7) (T := TX7) (N := 18) hx hb hts in_X7 hown hK.1 hP 0 rfl rfl 10 (by decide) fl_45 (fun _ h9 => h9) rfl dX7_refusal_1 ?_
  refine nv_if_ne (tgt := 15) hx hb dX7_refusal_4 (by decide) (by omega) (fun c1 => ?_) (fun c1 => ?_)
  · refine lv_aload_n hx hb dX7_refusal_15 rfl (lv_at hl 0 rfl) ?_
    refine lv_iload_n hx hb dX7_refusal_16 rfl (lv_at hl 1 rfl) ?_
    refine nv_jn (α := Int32) (fun r => W p0 l e0 ({ frames := 1, cells := 0, slots := 0, locals := 21 }) s m0 args below meth c0 s.heap [] 0 0 Q (F0 m0 31 ls (.int r :: [.ref h]))) ((if z = 0 then nI (wy) else wd)) (fun r er => ?_) (fun hJ => ?_)
    · subst er
      refine nv_kM (va_runV (As := [.int ((if z = 0 then nI (wy) else wd))]) (rest := []) ⟨hx, hb, hml, hown, hts⟩ (c_X7_done l hD ((if z = 0 then nI (wy) else wd))) (cwV 1 hts gX7_refusal_X7_done rfl rfl rfl (by decide +kernel) ⟨Nat.le_of_ble_eq_true rfl, Nat.le_of_ble_eq_true rfl⟩) (nv_pV hK hP (va_recv hK.1 hP (ci := 9) (q0 := 0) rfl rfl)) rfl rfl hl.1 rfl (lv_room (Nat.le_of_ble_eq_true rfl)) dX7_refusal_31 ⟨Nat.zero_le _, Nat.zero_le _⟩) hS (fun H locs hP hS => ?_)
      have hP : va_P D vwCl [(h, .inr (9, [.ref aG, .ref aB, .ref aH, .int (nI ch), .ref aS, .int (nI hs), .ref aI, .int (nI ty), .int ea, .int ra, .int (nI wy), .int wd, .ref aL, .int (nI ln), .int (nI 0), .int (nI sp), .int (nI iw), .ref aT])), (aG, .inl (cI, 128, .inl (gN G))), (aB, .inl (cI, 128, .inl (gN B))), (aH, .inl (cI, 1024, .inl (gN Hi))), (aS, .inl (cI, 128, .inl (gN Sv))), (aI, .inl (cI, 60, .inl (gN In))), (aL, .inl (cC, 40, .inl (gN Le))), (aT, .inl (cI, 360, .inl To))] H := hP
      exact nv_retM hq hx hb hr hlocks (nar_i _) (by rw [if_neg c1]) hS hP (by rw [if_neg c1]) dX7_refusal_34
    · refine nv_if_eq (tgt := 27) hx hb dX7_refusal_17 (by decide) (by omega) (fun c2 => ?_) (fun c2 => ?_)
      · refine lv_aload_n hx hb dX7_refusal_27 rfl (lv_at hl 0 rfl) ?_
        refine va_get (D := D) (ci := 9) (v := .int (nI wy)) (C := RX7) (T := TX7) (N := 18) hx hb hts in_X7 hown hK.1 hP 0 rfl rfl 10 (by decide) fl_45 (fun _ h9 => h9) rfl dX7_refusal_28 ?_
        exact hJ _ (if_pos c2).symm
      · refine lv_aload_n hx hb dX7_refusal_20 rfl (lv_at hl 0 rfl) ?_
        refine va_get (D := D) (ci := 9) (v := .int wd) (C := RX7) (T := TX7) (N := 18) hx hb hts in_X7 hown hK.1 hP 0 rfl rfl 11 (by decide) fl_48 (fun _ h9 => h9) rfl dX7_refusal_21 ?_
        refine lv_goto (tgt := 31) hx hb dX7_refusal_24 (by decide) ?_
        exact hJ _ (if_neg c2).symm
  · refine lv_aload_n hx hb dX7_refusal_7 rfl (lv_at hl 0 rfl) ?_
    refine lv_iconst (v := nI 1) hx hb dX7_refusal_8 (by decide) ?_
    refine nv_kM (va_runV (As := [.int (nI 1)]) (rest := []) ⟨hx, hb, hml, hown, hts⟩ (c_X7_fails l hD 1) (cwV 1 hts gX7_refusal_X7_fails rfl rfl rfl (by decide +kernel) ⟨Nat.le_of_ble_eq_true rfl, Nat.le_of_ble_eq_true rfl⟩) (nv_pV hK hP (va_recv hK.1 hP (ci := 9) (q0 := 0) rfl rfl)) rfl rfl hl.1 rfl (lv_room (Nat.le_of_ble_eq_true rfl)) dX7_refusal_9 ⟨Nat.zero_le _, Nat.zero_le _⟩) hS (fun H locs hP hS => ?_)
    have hP : va_P D vwCl [(h, .inr (9, [.ref aG, .ref aB, .ref aH, .int (nI ch), .ref aS, .int (nI hs), .ref aI, .int (nI ty), .int ea, .int ra, .int (nI wy), .int wd, .ref aL, .int (nI ln), .int (nI 1), .int (nI sp), .int (nI iw), .ref aT])), (aG, .inl (cI, 128, .inl (gN G))), (aB, .inl (cI, 128, .inl (gN B))), (aH, .inl (cI, 1024, .inl (gN Hi))), (aS, .inl (cI, 128, .inl (gN Sv))), (aI, .inl (cI, 60, .inl (gN In))), (aL, .inl (cC, 40, .inl (gN Le))), (aT, .inl (cI, 360, .inl To))] H := hP
    refine lv_goto (tgt := 34) hx hb dX7_refusal_12 (by decide) ?_
    exact nv_retM hq hx hb hr hlocks (nar_i _) (by rw [if_pos c1] <;> rfl) hS hP (by rw [if_pos c1]) dX7_refusal_34

set_option maxHeartbeats 1000000 in
set_option maxRecDepth 100000 in
theorem c_X7_writes (l : Launch) {D : va_G} {cI cC : ClassId} {h aG aB aH aS aI aL aT : Nat} {G B Hi Sv In Le : Nat → Nat} {To : Nat → Int32} {ch hs ty wy ln th sp iw : Nat} {ea ra wd : Int32} {A : Nat → Prop} (hD : ∀ (G B Hi Sv In Le : Nat → Nat) (To : Nat → Int32) (fs : List Value), va_D A [(h, .inr (9, fs)), (aG, .inl (cI, 128, .inl (gN G))), (aB, .inl (cI, 128, .inl (gN B))), (aH, .inl (cI, 1024, .inl (gN Hi))), (aS, .inl (cI, 128, .inl (gN Sv))), (aI, .inl (cI, 60, .inl (gN In))), (aL, .inl (cC, 40, .inl (gN Le))), (aT, .inl (cI, 360, .inl To))]) (c : Nat) (hc : c < 65536) (hln : ln < 40) : Met l yX7_writes wsX7_writes ({ frames := 0, cells := 0, slots := 0, locals := 0 }) (va_Pc [.ref h, .int (nI c)] (sPre D [(cI, .int), (cC, .char)] [] (fun H => va_P D vwCl [(h, .inr (9, [.ref aG, .ref aB, .ref aH, .int (nI ch), .ref aS, .int (nI hs), .ref aI, .int (nI ty), .int ea, .int ra, .int (nI wy), .int wd, .ref aL, .int (nI ln), .int (nI th), .int (nI sp), .int (nI iw), .ref aT])), (aG, .inl (cI, 128, .inl (gN G))), (aB, .inl (cI, 128, .inl (gN B))), (aH, .inl (cI, 1024, .inl (gN Hi))), (aS, .inl (cI, 128, .inl (gN Sv))), (aI, .inl (cI, 60, .inl (gN In))), (aL, .inl (cC, 40, .inl (gN Le))), (aT, .inl (cI, 360, .inl To))] H))) (mQv D [(h, .inr (9, [.ref aG, .ref aB, .ref aH, .int (nI ch), .ref aS, .int (nI hs), .ref aI, .int (nI ty), .int ea, .int ra, .int (nI wy), .int wd, .ref aL, .int (nI (ln + 1)), .int (nI th), .int (nI sp), .int (nI iw), .ref aT])), (aG, .inl (cI, 128, .inl (gN G))), (aB, .inl (cI, 128, .inl (gN B))), (aH, .inl (cI, 1024, .inl (gN Hi))), (aS, .inl (cI, 128, .inl (gN Sv))), (aI, .inl (cI, 60, .inl (gN In))), (aL, .inl (cC, 40, .inl (gN ((va_up Le ln c))))), (aT, .inl (cI, 360, .inl To))] A) 0 0 A := by
  refine nv_met (cc := cX7_writes) (maxL := 2) (ret := none) (by decide) rfl (Nat.le_of_ble_eq_true rfl) ?_
  intro p0 e0 s m0 args below meth c0 Q hq hargs hnA hpre ls hl
  obtain ⟨hx, hb, hr, hts, hown, hlocks, hml⟩ := hnA
  obtain ⟨hP, hK⟩ := hpre
  have hown : s.vm.findClass RX7 = some m0.cls := hown
  have hP : va_P D vwCl [(h, .inr (9, [.ref aG, .ref aB, .ref aH, .int (nI ch), .ref aS, .int (nI hs), .ref aI, .int (nI ty), .int ea, .int ra, .int (nI wy), .int wd, .ref aL, .int (nI ln), .int (nI th), .int (nI sp), .int (nI iw), .ref aT])), (aG, .inl (cI, 128, .inl (gN G))), (aB, .inl (cI, 128, .inl (gN B))), (aH, .inl (cI, 1024, .inl (gN Hi))), (aS, .inl (cI, 128, .inl (gN Sv))), (aI, .inl (cI, 60, .inl (gN In))), (aL, .inl (cC, 40, .inl (gN Le))), (aT, .inl (cI, 360, .inl To))] s.heap := hP
  have hl : lv_has ls 2 [(0, .ref h), (1, .int (nI c))] := hl
  have hS : va_S A s.heap s.heap [] := va_S.rf
  have in_X7 : ∀ w ∈ wsX70, w ∈ wsX7_writes := by decide +kernel
  have fl_32 := hts (.fieldLink RX7 32 "DoorDialectModel" "letters" "[C") (by decide +kernel)
  have fl_175 := hts (.fieldLink RX7 175 "DoorDialectModel" "lined" "I") (by decide +kernel)
  refine lv_aload_n hx hb dX7_writes_0 rfl (lv_at hl 0 rfl) ?_
  refine va_get (D := D) (ci := 9) (v := .ref aL) (C := RX7) (T := TX7) (N := 18) hx hb hts in_X7 hown hK.1 hP 0 rfl rfl 12 (by decide) fl_32 (fun _ h9 => h9) rfl dX7_writes_1 ?_
  refine lv_aload_n hx hb dX7_writes_4 rfl (lv_at hl 0 rfl) ?_
  refine va_get (D := D) (ci := 9) (v := .int (nI ln)) (C := RX7) (T := TX7) (N := 18) hx hb hts in_X7 hown hK.1 hP 0 rfl rfl 13 (by decide) fl_175 (fun _ h9 => h9) rfl dX7_writes_5 ?_
  refine lv_iload_n hx hb dX7_writes_8 rfl (lv_at hl 1 rfl) ?_
  refine lv_i2c (v := nI (c)) hx hb dX7_writes_9 (nv_i2c (by omega)) ?_
  refine nv_cast (i := ln) (v := c) hx hb hK.1 hP (hD _ _ _ _ _ _ _ _) hS 6 1 rfl rfl (by first | omega | (simp only [gEndAt]; omega)) (by decide) (by omega) dX7_writes_10 (fun H locs hP hS => ?_)
  have hP : va_P D vwCl [(h, .inr (9, [.ref aG, .ref aB, .ref aH, .int (nI ch), .ref aS, .int (nI hs), .ref aI, .int (nI ty), .int ea, .int ra, .int (nI wy), .int wd, .ref aL, .int (nI ln), .int (nI th), .int (nI sp), .int (nI iw), .ref aT])), (aG, .inl (cI, 128, .inl (gN G))), (aB, .inl (cI, 128, .inl (gN B))), (aH, .inl (cI, 1024, .inl (gN Hi))), (aS, .inl (cI, 128, .inl (gN Sv))), (aI, .inl (cI, 60, .inl (gN In))), (aL, .inl (cC, 40, .inl (gN ((va_up Le (ln) (c)))))), (aT, .inl (cI, 360, .inl To))] H := hP
  refine lv_aload_n hx hb dX7_writes_11 rfl (lv_at hl 0 rfl) ?_
  refine lv_dup hx hb dX7_writes_12 rfl ?_
  refine va_get (D := D) (ci := 9) (v := .int (nI ln)) (C := RX7) (T := TX7) (N := 18) hx hb hts in_X7 hown hK.1 hP 0 rfl rfl 13 (by decide) fl_175 (fun _ h9 => h9) rfl dX7_writes_13 ?_
  refine lv_iconst (v := nI 1) hx hb dX7_writes_16 (by decide) ?_
  refine nv_iadd hx hb dX7_writes_17 ?_
  refine va_put (D := D) (ci := 9) (v := .int (nI (ln + 1))) (ty := .int) (C := RX7) (T := TX7) (N := 18) hx hb hts in_X7 tyX7 tyX7_ok nmX7 hown hK.1 hP (hD _ _ _ _ _ _ _ _) hS 0 rfl rfl 13 (by decide) fl_175 (fun _ h9 => h9) rfl (by decide +kernel) rfl rfl (Nat.le_of_ble_eq_true rfl) dX7_writes_18 (fun H locs hP _ hS => ?_)
  have hP : va_P D vwCl [(h, .inr (9, [.ref aG, .ref aB, .ref aH, .int (nI ch), .ref aS, .int (nI hs), .ref aI, .int (nI ty), .int ea, .int ra, .int (nI wy), .int wd, .ref aL, .int (nI (ln + 1)), .int (nI th), .int (nI sp), .int (nI iw), .ref aT])), (aG, .inl (cI, 128, .inl (gN G))), (aB, .inl (cI, 128, .inl (gN B))), (aH, .inl (cI, 1024, .inl (gN Hi))), (aS, .inl (cI, 128, .inl (gN Sv))), (aI, .inl (cI, 60, .inl (gN In))), (aL, .inl (cC, 40, .inl (gN ((va_up Le (ln) (c)))))), (aT, .inl (cI, 360, .inl To))] H := hP
  exact nv_retMv hq hx hb hr hlocks hS hP (rfl) dX7_writes_21

set_option maxHeartbeats 1000000 in
set_option maxRecDepth 100000 in
theorem c_X7_writesBehind (l : Launch) {D : va_G} {cI cC : ClassId} {h aG aB aH aS aI aL aT : Nat} {G B Hi Sv In Le : Nat → Nat} {To : Nat → Int32} {ch hs ty wy ln th sp iw : Nat} {ea ra wd : Int32} {A : Nat → Prop} (hD : ∀ (G B Hi Sv In Le : Nat → Nat) (To : Nat → Int32) (fs : List Value), va_D A [(h, .inr (9, fs)), (aG, .inl (cI, 128, .inl (gN G))), (aB, .inl (cI, 128, .inl (gN B))), (aH, .inl (cI, 1024, .inl (gN Hi))), (aS, .inl (cI, 128, .inl (gN Sv))), (aI, .inl (cI, 60, .inl (gN In))), (aL, .inl (cC, 40, .inl (gN Le))), (aT, .inl (cI, 360, .inl To))]) (c v : Nat) (hc : c < 65536) (hv : v < 10000) (hln : ln + 1 < 40) : Met l yX7_writesBehind wsX7_writesBehind ({ frames := 1, cells := 0, slots := 0, locals := 21 }) (va_Pc [.ref h, .int (nI c), .int (nI v)] (sPre D [(cI, .int), (cC, .char)] [] (fun H => va_P D vwCl [(h, .inr (9, [.ref aG, .ref aB, .ref aH, .int (nI ch), .ref aS, .int (nI hs), .ref aI, .int (nI ty), .int ea, .int ra, .int (nI wy), .int wd, .ref aL, .int (nI ln), .int (nI th), .int (nI sp), .int (nI iw), .ref aT])), (aG, .inl (cI, 128, .inl (gN G))), (aB, .inl (cI, 128, .inl (gN B))), (aH, .inl (cI, 1024, .inl (gN Hi))), (aS, .inl (cI, 128, .inl (gN Sv))), (aI, .inl (cI, 60, .inl (gN In))), (aL, .inl (cC, 40, .inl (gN Le))), (aT, .inl (cI, 360, .inl To))] H))) (mQv D [(h, .inr (9, [.ref aG, .ref aB, .ref aH, .int (nI ch), .ref aS, .int (nI hs), .ref aI, .int (nI ty), .int ea, .int ra, .int (nI wy), .int wd, .ref aL, .int (nI (ln + 1 + 1)), .int (nI th), .int (nI sp), .int (nI iw), .ref aT])), (aG, .inl (cI, 128, .inl (gN G))), (aB, .inl (cI, 128, .inl (gN B))), (aH, .inl (cI, 1024, .inl (gN Hi))), (aS, .inl (cI, 128, .inl (gN Sv))), (aI, .inl (cI, 60, .inl (gN In))), (aL, .inl (cC, 40, .inl (gN ((va_up (va_up Le ln c) (ln + 1) (48 + v)))))), (aT, .inl (cI, 360, .inl To))] A) 0 0 A := by
  refine nv_met (cc := cX7_writesBehind) (maxL := 3) (ret := none) (by decide) rfl (Nat.le_of_ble_eq_true rfl) ?_
  intro p0 e0 s m0 args below meth c0 Q hq hargs hnA hpre ls hl
  obtain ⟨hx, hb, hr, hts, hown, hlocks, hml⟩ := hnA
  obtain ⟨hP, hK⟩ := hpre
  have hown : s.vm.findClass RX7 = some m0.cls := hown
  have hP : va_P D vwCl [(h, .inr (9, [.ref aG, .ref aB, .ref aH, .int (nI ch), .ref aS, .int (nI hs), .ref aI, .int (nI ty), .int ea, .int ra, .int (nI wy), .int wd, .ref aL, .int (nI ln), .int (nI th), .int (nI sp), .int (nI iw), .ref aT])), (aG, .inl (cI, 128, .inl (gN G))), (aB, .inl (cI, 128, .inl (gN B))), (aH, .inl (cI, 1024, .inl (gN Hi))), (aS, .inl (cI, 128, .inl (gN Sv))), (aI, .inl (cI, 60, .inl (gN In))), (aL, .inl (cC, 40, .inl (gN Le))), (aT, .inl (cI, 360, .inl To))] s.heap := hP
  have hl : lv_has ls 3 [(0, .ref h), (1, .int (nI c)), (2, .int (nI v))] := hl
  have hS : va_S A s.heap s.heap [] := va_S.rf
  refine lv_aload_n hx hb dX7_writesBehind_0 rfl (lv_at hl 0 rfl) ?_
  refine lv_iload_n hx hb dX7_writesBehind_1 rfl (lv_at hl 1 rfl) ?_
  refine nv_kMv (va_runV (As := [.int (nI c)]) (rest := []) ⟨hx, hb, hml, hown, hts⟩ (c_X7_writes l hD c (by omega) (by omega)) (cwV 1 hts gX7_writesBehind_X7_writes rfl rfl rfl (by decide +kernel) ⟨Nat.le_of_ble_eq_true rfl, Nat.le_of_ble_eq_true rfl⟩) (nv_pV hK hP (va_recv hK.1 hP (ci := 9) (q0 := 0) rfl rfl)) rfl rfl hl.1 rfl (lv_room (Nat.le_of_ble_eq_true rfl)) dX7_writesBehind_2 ⟨Nat.zero_le _, Nat.zero_le _⟩) hS (fun H locs hP hS => ?_)
  have hP : va_P D vwCl [(h, .inr (9, [.ref aG, .ref aB, .ref aH, .int (nI ch), .ref aS, .int (nI hs), .ref aI, .int (nI ty), .int ea, .int ra, .int (nI wy), .int wd, .ref aL, .int (nI (ln + 1)), .int (nI th), .int (nI sp), .int (nI iw), .ref aT])), (aG, .inl (cI, 128, .inl (gN G))), (aB, .inl (cI, 128, .inl (gN B))), (aH, .inl (cI, 1024, .inl (gN Hi))), (aS, .inl (cI, 128, .inl (gN Sv))), (aI, .inl (cI, 60, .inl (gN In))), (aL, .inl (cC, 40, .inl (gN ((va_up Le (ln) (c)))))), (aT, .inl (cI, 360, .inl To))] H := hP
  refine lv_aload_n hx hb dX7_writesBehind_5 rfl (lv_at hl 0 rfl) ?_
  refine lv_bipush (v := nI 48) hx hb dX7_writesBehind_6 (by decide) ?_
  refine lv_iload_n hx hb dX7_writesBehind_8 rfl (lv_at hl 2 rfl) ?_
  refine nv_iadd hx hb dX7_writesBehind_9 ?_
  refine nv_kMv (va_runV (As := [.int (nI (48 + v))]) (rest := []) ⟨hx, hb, hml, hown, hts⟩ (c_X7_writes l hD (48 + v) (by omega) (by omega)) (cwV 1 hts gX7_writesBehind_X7_writes rfl rfl rfl (by decide +kernel) ⟨Nat.le_of_ble_eq_true rfl, Nat.le_of_ble_eq_true rfl⟩) (nv_pV hK hP (va_recv hK.1 hP (ci := 9) (q0 := 0) rfl rfl)) rfl rfl hl.1 rfl (lv_room (Nat.le_of_ble_eq_true rfl)) dX7_writesBehind_10 ⟨Nat.zero_le _, Nat.zero_le _⟩) hS (fun H locs hP hS => ?_)
  have hP : va_P D vwCl [(h, .inr (9, [.ref aG, .ref aB, .ref aH, .int (nI ch), .ref aS, .int (nI hs), .ref aI, .int (nI ty), .int ea, .int ra, .int (nI wy), .int wd, .ref aL, .int (nI (ln + 1 + 1)), .int (nI th), .int (nI sp), .int (nI iw), .ref aT])), (aG, .inl (cI, 128, .inl (gN G))), (aB, .inl (cI, 128, .inl (gN B))), (aH, .inl (cI, 1024, .inl (gN Hi))), (aS, .inl (cI, 128, .inl (gN Sv))), (aI, .inl (cI, 60, .inl (gN In))), (aL, .inl (cC, 40, .inl (gN ((va_up (va_up Le (ln) (c)) (ln + 1) (48 + v)))))), (aT, .inl (cI, 360, .inl To))] H := hP
  exact nv_retMv hq hx hb hr hlocks hS hP (rfl) dX7_writesBehind_13

set_option maxHeartbeats 1000000 in
set_option maxRecDepth 100000 in
theorem c_X7_line (l : Launch) {D : va_G} {cI cC : ClassId} {h aG aB aH aS aI aL aT : Nat} {G B Hi Sv In Le : Nat → Nat} {To : Nat → Int32} {ch hs ty wy ln th sp iw : Nat} {ea ra wd : Int32} {A : Nat → Prop} (hD : ∀ (G B Hi Sv In Le : Nat → Nat) (To : Nat → Int32) (fs : List Value), va_D A [(h, .inr (9, fs)), (aG, .inl (cI, 128, .inl (gN G))), (aB, .inl (cI, 128, .inl (gN B))), (aH, .inl (cI, 1024, .inl (gN Hi))), (aS, .inl (cI, 128, .inl (gN Sv))), (aI, .inl (cI, 60, .inl (gN In))), (aL, .inl (cC, 40, .inl (gN Le))), (aT, .inl (cI, 360, .inl To))]) {b : Nat} (hG : gWf b G) (d : Int32) : Met l yX7_line wsX7_line ({ frames := 2, cells := 0, slots := 0, locals := 43 }) (va_Pc [.ref h, .int d] (sPre D [(cI, .int), (cC, .char)] [] (fun H => va_P D vwCl [(h, .inr (9, [.ref aG, .ref aB, .ref aH, .int (nI ch), .ref aS, .int (nI hs), .ref aI, .int (nI ty), .int ea, .int ra, .int (nI wy), .int wd, .ref aL, .int (nI ln), .int (nI th), .int (nI sp), .int (nI iw), .ref aT])), (aG, .inl (cI, 128, .inl (gN G))), (aB, .inl (cI, 128, .inl (gN B))), (aH, .inl (cI, 1024, .inl (gN Hi))), (aS, .inl (cI, 128, .inl (gN Sv))), (aI, .inl (cI, 60, .inl (gN In))), (aL, .inl (cC, 40, .inl (gN Le))), (aT, .inl (cI, 360, .inl To))] H))) (mQ D ((if iR d (G 0) then nI (lnD G (tN d)).length else 0)) [(h, .inr (9, [.ref aG, .ref aB, .ref aH, .int (nI ch), .ref aS, .int (nI hs), .ref aI, .int (nI ty), .int ea, .int ra, .int (nI wy), .int wd, .ref aL, .int (nI ((if iR d (G 0) then (lnD G (tN d)).length else ln))), .int (nI ((if iR d (G 0) then 0 else 1))), .int (nI sp), .int (nI iw), .ref aT])), (aG, .inl (cI, 128, .inl (gN G))), (aB, .inl (cI, 128, .inl (gN B))), (aH, .inl (cI, 1024, .inl (gN Hi))), (aS, .inl (cI, 128, .inl (gN Sv))), (aI, .inl (cI, 60, .inl (gN In))), (aL, .inl (cC, 40, .inl (gN ((if iR d (G 0) then wrL (lnD G (tN d)) Le 0 else Le))))), (aT, .inl (cI, 360, .inl To))] A) 0 0 A := by
  refine nv_met (cc := cX7_line) (maxL := 3) (ret := (some .int)) (by decide) rfl (Nat.le_of_ble_eq_true rfl) ?_
  intro p0 e0 s m0 args below meth c0 Q hq hargs hnA hpre ls hl
  obtain ⟨hx, hb, hr, hts, hown, hlocks, hml⟩ := hnA
  obtain ⟨hP, hK⟩ := hpre
  have hown : s.vm.findClass RX7 = some m0.cls := hown
  have hP : va_P D vwCl [(h, .inr (9, [.ref aG, .ref aB, .ref aH, .int (nI ch), .ref aS, .int (nI hs), .ref aI, .int (nI ty), .int ea, .int ra, .int (nI wy), .int wd, .ref aL, .int (nI ln), .int (nI th), .int (nI sp), .int (nI iw), .ref aT])), (aG, .inl (cI, 128, .inl (gN G))), (aB, .inl (cI, 128, .inl (gN B))), (aH, .inl (cI, 1024, .inl (gN Hi))), (aS, .inl (cI, 128, .inl (gN Sv))), (aI, .inl (cI, 60, .inl (gN In))), (aL, .inl (cC, 40, .inl (gN Le))), (aT, .inl (cI, 360, .inl To))] s.heap := hP
  have hl : lv_has ls 3 [(0, .ref h), (1, .int d)] := hl
  have hS : va_S A s.heap s.heap [] := va_S.rf
  have in_X7 : ∀ w ∈ wsX70, w ∈ wsX7_line := by decide +kernel
  have fl_7 := hts (.fieldLink RX7 7 "DoorDialectModel" "g" "[I") (by decide +kernel)
  have fl_175 := hts (.fieldLink RX7 175 "DoorDialectModel" "lined" "I") (by decide +kernel)
  obtain ⟨g_b, g_k, g_0, g_1, g_2, g_e, g_d, g_t, g_y, g_s, g_h⟩ := id hG
  refine lv_aload_n hx hb dX7_line_0 rfl (lv_at hl 0 rfl) ?_
  refine lv_iload_n hx hb dX7_line_1 rfl (lv_at hl 1 rfl) ?_
  refine nv_kS (va_runV (As := [.int d]) (rest := []) ⟨hx, hb, hml, hown, hts⟩ (c_X7_isDoor l (d) (by omega)) (cwV 1 hts gX7_line_X7_isDoor rfl rfl rfl (by decide +kernel) ⟨Nat.le_of_ble_eq_true rfl, Nat.le_of_ble_eq_true rfl⟩) (nv_pV hK hP (va_recv hK.1 hP (ci := 9) (q0 := 0) rfl rfl)) rfl rfl hl.1 rfl (lv_room (Nat.le_of_ble_eq_true rfl)) dX7_line_2 ⟨Nat.zero_le _, Nat.zero_le _⟩) ?_
  refine nv_ifb_ne (tgt := 14) hx hb dX7_line_5 (by decide) (fun c1 => ?_) (fun c1 => ?_)
  · obtain ⟨dk, h_dk, rfl⟩ := iR_of c1 (by omega)
    have et_dk : tN (nI dk) = dk := tN_nI (by omega)
    obtain ⟨w_a, w_g, w_n, w_s, w_w, w_l, w_o, w_x, w_y, w_1, w_2, w_3, w_4⟩ := hG.door (d := dk) (by omega)
    have hcc := gWf_case hG (d := dk) (by omega)
    have hee := gEnd_lt hG (d := dk) (by omega)
    have hen := gEnd_le hG (d := dk) (by omega)
    refine lv_aload_n hx hb dX7_line_14 rfl (lv_at hl 0 rfl) ?_
    refine lv_iconst (v := nI 0) hx hb dX7_line_15 (by decide) ?_
    refine va_put (D := D) (ci := 9) (v := .int (nI 0)) (ty := .int) (C := RX7) (T := TX7) (N := 18) hx hb hts in_X7 tyX7 tyX7_ok nmX7 hown hK.1 hP (hD _ _ _ _ _ _ _ _) hS 0 rfl rfl 13 (by decide) fl_175 (fun _ h9 => h9) rfl (by decide +kernel) rfl rfl (Nat.le_of_ble_eq_true rfl) dX7_line_16 (fun H locs hP _ hS => ?_)
    have hP : va_P D vwCl [(h, .inr (9, [.ref aG, .ref aB, .ref aH, .int (nI ch), .ref aS, .int (nI hs), .ref aI, .int (nI ty), .int ea, .int ra, .int (nI wy), .int wd, .ref aL, .int (nI 0), .int (nI th), .int (nI sp), .int (nI iw), .ref aT])), (aG, .inl (cI, 128, .inl (gN G))), (aB, .inl (cI, 128, .inl (gN B))), (aH, .inl (cI, 1024, .inl (gN Hi))), (aS, .inl (cI, 128, .inl (gN Sv))), (aI, .inl (cI, 60, .inl (gN In))), (aL, .inl (cC, 40, .inl (gN Le))), (aT, .inl (cI, 360, .inl To))] H := hP
    refine lv_aload_n hx hb dX7_line_19 rfl (lv_at hl 0 rfl) ?_
    refine va_get (D := D) (ci := 9) (v := .ref aG) (C := RX7) (T := TX7) (N := 18) hx hb hts in_X7 hown hK.1 hP 0 rfl rfl 0 (by decide) fl_7 (fun _ h9 => h9) rfl dX7_line_20 ?_
    refine lv_bipush (v := nI 40) hx hb dX7_line_23 (by decide) ?_
    refine lv_iload_n hx hb dX7_line_25 rfl (lv_at hl 1 rfl) ?_
    refine nv_iadd hx hb dX7_line_26 ?_
    refine nv_gald (i := 40 + dk) hx hb hK.1 hP 1 0 rfl rfl (by first | omega | (simp only [gEndAt]; omega)) (by decide) dX7_line_27 ?_
    have q2 : G (40 + dk) < 2 ^ 20 := hG.lt (k := 40 + dk) (by omega)
    refine lv_istore_n (lv' := [(2, .int (nI (G (40 + dk)))), (0, .ref h), (1, .int (nI dk))]) hx hb dX7_line_28 rfl hl (by decide) rfl (fun ls hl => ?_)
    refine lv_aload_n hx hb dX7_line_29 rfl (lv_at hl 1 rfl) ?_
    refine lv_iload_n hx hb dX7_line_30 rfl (lv_at hl 0 rfl) ?_
    refine nv_jn (α := Nat) (fun r => W p0 l e0 ({ frames := 2, cells := 0, slots := 0, locals := 43 }) s m0 args below meth c0 H locs 0 0 Q (F0 m0 51 ls (.int (nI r) :: [.ref h]))) ((if G (40 + dk) = 0 then 111 else (if G (40 + dk) = 1 then 105 else 103))) (fun r er => ?_) (fun hJ => ?_)
    · subst er
      refine nv_to (gl (G (40 + dk))) rfl ?_
      refine nv_kMv (va_runV (As := [.int (nI (gl (G (40 + dk))))]) (rest := []) ⟨hx, hb, hml, hown, hts⟩ (c_X7_writes l hD (gl (G (40 + dk))) (by first | omega | (unfold gl; split; omega; split <;> omega) | (split <;> omega)) (by omega)) (cwV 1 hts gX7_line_X7_writes rfl rfl rfl (by decide +kernel) ⟨Nat.le_of_ble_eq_true rfl, Nat.le_of_ble_eq_true rfl⟩) (nv_pV hK hP (va_recv hK.1 hP (ci := 9) (q0 := 0) rfl rfl)) rfl rfl hl.1 rfl (lv_room (Nat.le_of_ble_eq_true rfl)) dX7_line_51 ⟨Nat.zero_le _, Nat.zero_le _⟩) hS (fun H locs hP hS => ?_)
      have hP : va_P D vwCl [(h, .inr (9, [.ref aG, .ref aB, .ref aH, .int (nI ch), .ref aS, .int (nI hs), .ref aI, .int (nI ty), .int ea, .int ra, .int (nI wy), .int wd, .ref aL, .int (nI 1), .int (nI th), .int (nI sp), .int (nI iw), .ref aT])), (aG, .inl (cI, 128, .inl (gN G))), (aB, .inl (cI, 128, .inl (gN B))), (aH, .inl (cI, 1024, .inl (gN Hi))), (aS, .inl (cI, 128, .inl (gN Sv))), (aI, .inl (cI, 60, .inl (gN In))), (aL, .inl (cC, 40, .inl (gN ((va_up Le (0) (gl (G (40 + dk)))))))), (aT, .inl (cI, 360, .inl To))] H := hP
      refine lv_aload_n hx hb dX7_line_54 rfl (lv_at hl 1 rfl) ?_
      refine lv_aload_n hx hb dX7_line_55 rfl (lv_at hl 1 rfl) ?_
      refine va_get (D := D) (ci := 9) (v := .ref aG) (C := RX7) (T := TX7) (N := 18) hx hb hts in_X7 hown hK.1 hP 0 rfl rfl 0 (by decide) fl_7 (fun _ h9 => h9) rfl dX7_line_56 ?_
      refine lv_bipush (v := nI 48) hx hb dX7_line_59 (by decide) ?_
      refine lv_iload_n hx hb dX7_line_61 rfl (lv_at hl 2 rfl) ?_
      refine nv_iadd hx hb dX7_line_62 ?_
      refine nv_gald (i := 48 + dk) hx hb hK.1 hP 1 0 rfl rfl (by first | omega | (simp only [gEndAt]; omega)) (by decide) dX7_line_63 ?_
      have q4 : G (48 + dk) < 2 ^ 20 := hG.lt (k := 48 + dk) (by omega)
      refine lv_iconst (v := nI 1) hx hb dX7_line_64 (by decide) ?_
      refine nv_jn (α := Nat) (fun r => W p0 l e0 ({ frames := 2, cells := 0, slots := 0, locals := 43 }) s m0 args below meth c0 H locs 0 0 Q (F0 m0 75 ls (.int (nI r) :: [.ref h]))) ((if G (48 + dk) = 1 then 100 else 115)) (fun r er => ?_) (fun hJ => ?_)
      · subst er
        refine nv_kMv (va_runV (As := [.int (nI ((if G (48 + dk) = 1 then 100 else 115)))]) (rest := []) ⟨hx, hb, hml, hown, hts⟩ (c_X7_writes l hD ((if G (48 + dk) = 1 then 100 else 115)) (by first | omega | (unfold gl; split; omega; split <;> omega) | (split <;> omega)) (by omega)) (cwV 1 hts gX7_line_X7_writes rfl rfl rfl (by decide +kernel) ⟨Nat.le_of_ble_eq_true rfl, Nat.le_of_ble_eq_true rfl⟩) (nv_pV hK hP (va_recv hK.1 hP (ci := 9) (q0 := 0) rfl rfl)) rfl rfl hl.1 rfl (lv_room (Nat.le_of_ble_eq_true rfl)) dX7_line_75 ⟨Nat.zero_le _, Nat.zero_le _⟩) hS (fun H locs hP hS => ?_)
        have hP : va_P D vwCl [(h, .inr (9, [.ref aG, .ref aB, .ref aH, .int (nI ch), .ref aS, .int (nI hs), .ref aI, .int (nI ty), .int ea, .int ra, .int (nI wy), .int wd, .ref aL, .int (nI 2), .int (nI th), .int (nI sp), .int (nI iw), .ref aT])), (aG, .inl (cI, 128, .inl (gN G))), (aB, .inl (cI, 128, .inl (gN B))), (aH, .inl (cI, 1024, .inl (gN Hi))), (aS, .inl (cI, 128, .inl (gN Sv))), (aI, .inl (cI, 60, .inl (gN In))), (aL, .inl (cC, 40, .inl (gN ((va_up (va_up Le (0) (gl (G (40 + dk)))) (1) ((if G (48 + dk) = 1 then 100 else 115))))))), (aT, .inl (cI, 360, .inl To))] H := hP
        refine lv_aload_n hx hb dX7_line_78 rfl (lv_at hl 1 rfl) ?_
        refine lv_bipush (v := nI 97) hx hb dX7_line_79 (by decide) ?_
        refine lv_aload_n hx hb dX7_line_81 rfl (lv_at hl 1 rfl) ?_
        refine lv_iload_n hx hb dX7_line_82 rfl (lv_at hl 2 rfl) ?_
        refine nv_kS (va_runV (As := [.int (nI dk)]) (rest := [.int (nI 97), .ref h]) ⟨hx, hb, hml, hown, hts⟩ (c_X7_endingOf l hG dk (by omega)) (cwV 1 hts gX7_line_X7_endingOf rfl rfl rfl (by decide +kernel) ⟨Nat.le_of_ble_eq_true rfl, Nat.le_of_ble_eq_true rfl⟩) (nv_pV hK hP (va_recv hK.1 hP (ci := 9) (q0 := 0) rfl rfl)) rfl rfl hl.1 rfl (lv_room (Nat.le_of_ble_eq_true rfl)) dX7_line_83 ⟨Nat.zero_le _, Nat.zero_le _⟩) ?_
        refine nv_iadd hx hb dX7_line_86 ?_
        refine lv_aload_n hx hb dX7_line_87 rfl (lv_at hl 1 rfl) ?_
        refine va_get (D := D) (ci := 9) (v := .ref aG) (C := RX7) (T := TX7) (N := 18) hx hb hts in_X7 hown hK.1 hP 0 rfl rfl 0 (by decide) fl_7 (fun _ h9 => h9) rfl dX7_line_88 ?_
        refine lv_bipush (v := nI 88) hx hb dX7_line_91 (by decide) ?_
        refine lv_iload_n hx hb dX7_line_93 rfl (lv_at hl 2 rfl) ?_
        refine nv_iadd hx hb dX7_line_94 ?_
        refine nv_gald (i := 88 + dk) hx hb hK.1 hP 1 0 rfl rfl (by first | omega | (simp only [gEndAt]; omega)) (by decide) dX7_line_95 ?_
        have q6 : G (88 + dk) < 2 ^ 20 := hG.lt (k := 88 + dk) (by omega)
        refine nv_kMv (va_runV (As := [.int (nI (97 + (gEnd G dk))), .int (nI (G (88 + dk)))]) (rest := []) ⟨hx, hb, hml, hown, hts⟩ (c_X7_writesBehind l hD (97 + (gEnd G dk)) (G (88 + dk)) (by omega) (by omega) (by omega)) (cwV 2 hts gX7_line_X7_writesBehind rfl rfl rfl (by decide +kernel) ⟨Nat.le_of_ble_eq_true rfl, Nat.le_of_ble_eq_true rfl⟩) (nv_pV hK hP (va_recv hK.1 hP (ci := 9) (q0 := 0) rfl rfl)) rfl rfl hl.1 rfl (lv_room (Nat.le_of_ble_eq_true rfl)) dX7_line_96 ⟨Nat.zero_le _, Nat.zero_le _⟩) hS (fun H locs hP hS => ?_)
        have hP : va_P D vwCl [(h, .inr (9, [.ref aG, .ref aB, .ref aH, .int (nI ch), .ref aS, .int (nI hs), .ref aI, .int (nI ty), .int ea, .int ra, .int (nI wy), .int wd, .ref aL, .int (nI 4), .int (nI th), .int (nI sp), .int (nI iw), .ref aT])), (aG, .inl (cI, 128, .inl (gN G))), (aB, .inl (cI, 128, .inl (gN B))), (aH, .inl (cI, 1024, .inl (gN Hi))), (aS, .inl (cI, 128, .inl (gN Sv))), (aI, .inl (cI, 60, .inl (gN In))), (aL, .inl (cC, 40, .inl (gN ((va_up (va_up (va_up (va_up Le (0) (gl (G (40 + dk)))) (1) ((if G (48 + dk) = 1 then 100 else 115))) (2) (97 + (gEnd G dk))) (2 + 1) (48 + (G (88 + dk)))))))), (aT, .inl (cI, 360, .inl To))] H := hP
        refine lv_aload_n hx hb dX7_line_99 rfl (lv_at hl 1 rfl) ?_
        refine lv_bipush (v := nI 45) hx hb dX7_line_100 (by decide) ?_
        refine lv_aload_n hx hb dX7_line_102 rfl (lv_at hl 1 rfl) ?_
        refine va_get (D := D) (ci := 9) (v := .ref aG) (C := RX7) (T := TX7) (N := 18) hx hb hts in_X7 hown hK.1 hP 0 rfl rfl 0 (by decide) fl_7 (fun _ h9 => h9) rfl dX7_line_103 ?_
        refine lv_bipush (v := nI 96) hx hb dX7_line_106 (by decide) ?_
        refine lv_iload_n hx hb dX7_line_108 rfl (lv_at hl 2 rfl) ?_
        refine nv_iadd hx hb dX7_line_109 ?_
        refine nv_gald (i := 96 + dk) hx hb hK.1 hP 1 0 rfl rfl (by first | omega | (simp only [gEndAt]; omega)) (by decide) dX7_line_110 ?_
        have q7 : G (96 + dk) < 2 ^ 20 := hG.lt (k := 96 + dk) (by omega)
        refine nv_kMv (va_runV (As := [.int (nI 45), .int (nI (G (96 + dk)))]) (rest := []) ⟨hx, hb, hml, hown, hts⟩ (c_X7_writesBehind l hD 45 (G (96 + dk)) (by omega) (by omega) (by omega)) (cwV 2 hts gX7_line_X7_writesBehind rfl rfl rfl (by decide +kernel) ⟨Nat.le_of_ble_eq_true rfl, Nat.le_of_ble_eq_true rfl⟩) (nv_pV hK hP (va_recv hK.1 hP (ci := 9) (q0 := 0) rfl rfl)) rfl rfl hl.1 rfl (lv_room (Nat.le_of_ble_eq_true rfl)) dX7_line_111 ⟨Nat.zero_le _, Nat.zero_le _⟩) hS (fun H locs hP hS => ?_)
        have hP : va_P D vwCl [(h, .inr (9, [.ref aG, .ref aB, .ref aH, .int (nI ch), .ref aS, .int (nI hs), .ref aI, .int (nI ty), .int ea, .int ra, .int (nI wy), .int wd, .ref aL, .int (nI 6), .int (nI th), .int (nI sp), .int (nI iw), .ref aT])), (aG, .inl (cI, 128, .inl (gN G))), (aB, .inl (cI, 128, .inl (gN B))), (aH, .inl (cI, 1024, .inl (gN Hi))), (aS, .inl (cI, 128, .inl (gN Sv))), (aI, .inl (cI, 60, .inl (gN In))), (aL, .inl (cC, 40, .inl (gN ((va_up (va_up (va_up (va_up (va_up (va_up Le (0) (gl (G (40 + dk)))) (1) ((if G (48 + dk) = 1 then 100 else 115))) (2) (97 + (gEnd G dk))) (2 + 1) (48 + (G (88 + dk)))) (4) (45)) (4 + 1) (48 + (G (96 + dk)))))))), (aT, .inl (cI, 360, .inl To))] H := hP
        refine lv_aload_n hx hb dX7_line_114 rfl (lv_at hl 1 rfl) ?_
        refine va_get (D := D) (ci := 9) (v := .ref aG) (C := RX7) (T := TX7) (N := 18) hx hb hts in_X7 hown hK.1 hP 0 rfl rfl 0 (by decide) fl_7 (fun _ h9 => h9) rfl dX7_line_115 ?_
        refine lv_bipush (v := nI 56) hx hb dX7_line_118 (by decide) ?_
        refine lv_iload_n hx hb dX7_line_120 rfl (lv_at hl 2 rfl) ?_
        refine nv_iadd hx hb dX7_line_121 ?_
        refine nv_gald (i := 56 + dk) hx hb hK.1 hP 1 0 rfl rfl (by first | omega | (simp only [gEndAt]; omega)) (by decide) dX7_line_122 ?_
        have q8 : G (56 + dk) < 2 ^ 20 := hG.lt (k := 56 + dk) (by omega)
        refine nv_if_le (tgt := 143) hx hb dX7_line_123 (by decide) (by omega) (fun c9 => ?_) (fun c9 => ?_)
        · refine lv_aload_n hx hb dX7_line_143 rfl (lv_at hl 1 rfl) ?_
          refine va_get (D := D) (ci := 9) (v := .ref aG) (C := RX7) (T := TX7) (N := 18) hx hb hts in_X7 hown hK.1 hP 0 rfl rfl 0 (by decide) fl_7 (fun _ h9 => h9) rfl dX7_line_144 ?_
          refine lv_bipush (v := nI 80) hx hb dX7_line_147 (by decide) ?_
          refine lv_iload_n hx hb dX7_line_149 rfl (lv_at hl 2 rfl) ?_
          refine nv_iadd hx hb dX7_line_150 ?_
          refine nv_gald (i := 80 + dk) hx hb hK.1 hP 1 0 rfl rfl (by first | omega | (simp only [gEndAt]; omega)) (by decide) dX7_line_151 ?_
          have q10 : G (80 + dk) < 2 ^ 20 := hG.lt (k := 80 + dk) (by omega)
          refine lv_iconst (v := nI 1) hx hb dX7_line_152 (by decide) ?_
          refine nv_icmp_ne (tgt := 165) hx hb dX7_line_153 (by decide) (by omega) (by omega) (fun c11 => ?_) (fun c11 => ?_)
          · refine lv_aload_n hx hb dX7_line_165 rfl (lv_at hl 1 rfl) ?_
            refine va_get (D := D) (ci := 9) (v := .ref aG) (C := RX7) (T := TX7) (N := 18) hx hb hts in_X7 hown hK.1 hP 0 rfl rfl 0 (by decide) fl_7 (fun _ h9 => h9) rfl dX7_line_166 ?_
            refine lv_bipush (v := nI 64) hx hb dX7_line_169 (by decide) ?_
            refine lv_iload_n hx hb dX7_line_171 rfl (lv_at hl 2 rfl) ?_
            refine nv_iadd hx hb dX7_line_172 ?_
            refine nv_gald (i := 64 + dk) hx hb hK.1 hP 1 0 rfl rfl (by first | omega | (simp only [gEndAt]; omega)) (by decide) dX7_line_173 ?_
            have q12 : G (64 + dk) < 2 ^ 20 := hG.lt (k := 64 + dk) (by omega)
            refine nv_if_le (tgt := 192) hx hb dX7_line_174 (by decide) (by omega) (fun c13 => ?_) (fun c13 => ?_)
            · refine lv_aload_n hx hb dX7_line_192 rfl (lv_at hl 1 rfl) ?_
              refine lv_aload_n hx hb dX7_line_193 rfl (lv_at hl 1 rfl) ?_
              refine va_get (D := D) (ci := 9) (v := .int (nI 6)) (C := RX7) (T := TX7) (N := 18) hx hb hts in_X7 hown hK.1 hP 0 rfl rfl 13 (by decide) fl_175 (fun _ h9 => h9) rfl dX7_line_194 ?_
              refine nv_kM (va_runV (As := [.int (nI 6)]) (rest := []) ⟨hx, hb, hml, hown, hts⟩ (c_X7_done l hD (nI (6))) (cwV 1 hts gX7_line_X7_done rfl rfl rfl (by decide +kernel) ⟨Nat.le_of_ble_eq_true rfl, Nat.le_of_ble_eq_true rfl⟩) (nv_pV hK hP (va_recv hK.1 hP (ci := 9) (q0 := 0) rfl rfl)) rfl rfl hl.1 rfl (lv_room (Nat.le_of_ble_eq_true rfl)) dX7_line_197 ⟨Nat.zero_le _, Nat.zero_le _⟩) hS (fun H locs hP hS => ?_)
              have hP : va_P D vwCl [(h, .inr (9, [.ref aG, .ref aB, .ref aH, .int (nI ch), .ref aS, .int (nI hs), .ref aI, .int (nI ty), .int ea, .int ra, .int (nI wy), .int wd, .ref aL, .int (nI 6), .int (nI 0), .int (nI sp), .int (nI iw), .ref aT])), (aG, .inl (cI, 128, .inl (gN G))), (aB, .inl (cI, 128, .inl (gN B))), (aH, .inl (cI, 1024, .inl (gN Hi))), (aS, .inl (cI, 128, .inl (gN Sv))), (aI, .inl (cI, 60, .inl (gN In))), (aL, .inl (cC, 40, .inl (gN ((va_up (va_up (va_up (va_up (va_up (va_up Le (0) (gl (G (40 + dk)))) (1) ((if G (48 + dk) = 1 then 100 else 115))) (2) (97 + (gEnd G dk))) (2 + 1) (48 + (G (88 + dk)))) (4) (45)) (4 + 1) (48 + (G (96 + dk)))))))), (aT, .inl (cI, 360, .inl To))] H := hP
              exact nv_retM hq hx hb hr hlocks (nar_i _) (by rw [if_pos c1, et_dk]; unfold lnD; rw [if_pos c9, if_neg c11, if_pos c13] <;> rfl) hS hP (by rw [if_pos c1, if_pos c1, if_pos c1, et_dk]; unfold lnD; rw [if_pos c9, if_neg c11, if_pos c13] <;> rfl) dX7_line_200
            · refine lv_aload_n hx hb dX7_line_177 rfl (lv_at hl 1 rfl) ?_
              refine lv_bipush (v := nI 33) hx hb dX7_line_178 (by decide) ?_
              refine lv_aload_n hx hb dX7_line_180 rfl (lv_at hl 1 rfl) ?_
              refine va_get (D := D) (ci := 9) (v := .ref aG) (C := RX7) (T := TX7) (N := 18) hx hb hts in_X7 hown hK.1 hP 0 rfl rfl 0 (by decide) fl_7 (fun _ h9 => h9) rfl dX7_line_181 ?_
              refine lv_bipush (v := nI 64) hx hb dX7_line_184 (by decide) ?_
              refine lv_iload_n hx hb dX7_line_186 rfl (lv_at hl 2 rfl) ?_
              refine nv_iadd hx hb dX7_line_187 ?_
              refine nv_gald (i := 64 + dk) hx hb hK.1 hP 1 0 rfl rfl (by first | omega | (simp only [gEndAt]; omega)) (by decide) dX7_line_188 ?_
              have q14 : G (64 + dk) < 2 ^ 20 := hG.lt (k := 64 + dk) (by omega)
              refine nv_kMv (va_runV (As := [.int (nI 33), .int (nI (G (64 + dk)))]) (rest := []) ⟨hx, hb, hml, hown, hts⟩ (c_X7_writesBehind l hD 33 (G (64 + dk)) (by omega) (by omega) (by omega)) (cwV 2 hts gX7_line_X7_writesBehind rfl rfl rfl (by decide +kernel) ⟨Nat.le_of_ble_eq_true rfl, Nat.le_of_ble_eq_true rfl⟩) (nv_pV hK hP (va_recv hK.1 hP (ci := 9) (q0 := 0) rfl rfl)) rfl rfl hl.1 rfl (lv_room (Nat.le_of_ble_eq_true rfl)) dX7_line_189 ⟨Nat.zero_le _, Nat.zero_le _⟩) hS (fun H locs hP hS => ?_)
              have hP : va_P D vwCl [(h, .inr (9, [.ref aG, .ref aB, .ref aH, .int (nI ch), .ref aS, .int (nI hs), .ref aI, .int (nI ty), .int ea, .int ra, .int (nI wy), .int wd, .ref aL, .int (nI 8), .int (nI th), .int (nI sp), .int (nI iw), .ref aT])), (aG, .inl (cI, 128, .inl (gN G))), (aB, .inl (cI, 128, .inl (gN B))), (aH, .inl (cI, 1024, .inl (gN Hi))), (aS, .inl (cI, 128, .inl (gN Sv))), (aI, .inl (cI, 60, .inl (gN In))), (aL, .inl (cC, 40, .inl (gN ((va_up (va_up (va_up (va_up (va_up (va_up (va_up (va_up Le (0) (gl (G (40 + dk)))) (1) ((if G (48 + dk) = 1 then 100 else 115))) (2) (97 + (gEnd G dk))) (2 + 1) (48 + (G (88 + dk)))) (4) (45)) (4 + 1) (48 + (G (96 + dk)))) (6) (33)) (6 + 1) (48 + (G (64 + dk)))))))), (aT, .inl (cI, 360, .inl To))] H := hP
              refine lv_aload_n hx hb dX7_line_192 rfl (lv_at hl 1 rfl) ?_
              refine lv_aload_n hx hb dX7_line_193 rfl (lv_at hl 1 rfl) ?_
              refine va_get (D := D) (ci := 9) (v := .int (nI 8)) (C := RX7) (T := TX7) (N := 18) hx hb hts in_X7 hown hK.1 hP 0 rfl rfl 13 (by decide) fl_175 (fun _ h9 => h9) rfl dX7_line_194 ?_
              refine nv_kM (va_runV (As := [.int (nI 8)]) (rest := []) ⟨hx, hb, hml, hown, hts⟩ (c_X7_done l hD (nI (8))) (cwV 1 hts gX7_line_X7_done rfl rfl rfl (by decide +kernel) ⟨Nat.le_of_ble_eq_true rfl, Nat.le_of_ble_eq_true rfl⟩) (nv_pV hK hP (va_recv hK.1 hP (ci := 9) (q0 := 0) rfl rfl)) rfl rfl hl.1 rfl (lv_room (Nat.le_of_ble_eq_true rfl)) dX7_line_197 ⟨Nat.zero_le _, Nat.zero_le _⟩) hS (fun H locs hP hS => ?_)
              have hP : va_P D vwCl [(h, .inr (9, [.ref aG, .ref aB, .ref aH, .int (nI ch), .ref aS, .int (nI hs), .ref aI, .int (nI ty), .int ea, .int ra, .int (nI wy), .int wd, .ref aL, .int (nI 8), .int (nI 0), .int (nI sp), .int (nI iw), .ref aT])), (aG, .inl (cI, 128, .inl (gN G))), (aB, .inl (cI, 128, .inl (gN B))), (aH, .inl (cI, 1024, .inl (gN Hi))), (aS, .inl (cI, 128, .inl (gN Sv))), (aI, .inl (cI, 60, .inl (gN In))), (aL, .inl (cC, 40, .inl (gN ((va_up (va_up (va_up (va_up (va_up (va_up (va_up (va_up Le (0) (gl (G (40 + dk)))) (1) ((if G (48 + dk) = 1 then 100 else 115))) (2) (97 + (gEnd G dk))) (2 + 1) (48 + (G (88 + dk)))) (4) (45)) (4 + 1) (48 + (G (96 + dk)))) (6) (33)) (6 + 1) (48 + (G (64 + dk)))))))), (aT, .inl (cI, 360, .inl To))] H := hP
              exact nv_retM hq hx hb hr hlocks (nar_i _) (by rw [if_pos c1, et_dk]; unfold lnD; rw [if_pos c9, if_neg c11, if_neg c13] <;> rfl) hS hP (by rw [if_pos c1, if_pos c1, if_pos c1, et_dk]; unfold lnD; rw [if_pos c9, if_neg c11, if_neg c13] <;> rfl) dX7_line_200
          · refine lv_aload_n hx hb dX7_line_156 rfl (lv_at hl 1 rfl) ?_
            refine lv_bipush (v := nI 43) hx hb dX7_line_157 (by decide) ?_
            refine nv_kMv (va_runV (As := [.int (nI 43)]) (rest := []) ⟨hx, hb, hml, hown, hts⟩ (c_X7_writes l hD 43 (by first | omega | (unfold gl; split; omega; split <;> omega) | (split <;> omega)) (by omega)) (cwV 1 hts gX7_line_X7_writes rfl rfl rfl (by decide +kernel) ⟨Nat.le_of_ble_eq_true rfl, Nat.le_of_ble_eq_true rfl⟩) (nv_pV hK hP (va_recv hK.1 hP (ci := 9) (q0 := 0) rfl rfl)) rfl rfl hl.1 rfl (lv_room (Nat.le_of_ble_eq_true rfl)) dX7_line_159 ⟨Nat.zero_le _, Nat.zero_le _⟩) hS (fun H locs hP hS => ?_)
            have hP : va_P D vwCl [(h, .inr (9, [.ref aG, .ref aB, .ref aH, .int (nI ch), .ref aS, .int (nI hs), .ref aI, .int (nI ty), .int ea, .int ra, .int (nI wy), .int wd, .ref aL, .int (nI 7), .int (nI th), .int (nI sp), .int (nI iw), .ref aT])), (aG, .inl (cI, 128, .inl (gN G))), (aB, .inl (cI, 128, .inl (gN B))), (aH, .inl (cI, 1024, .inl (gN Hi))), (aS, .inl (cI, 128, .inl (gN Sv))), (aI, .inl (cI, 60, .inl (gN In))), (aL, .inl (cC, 40, .inl (gN ((va_up (va_up (va_up (va_up (va_up (va_up (va_up Le (0) (gl (G (40 + dk)))) (1) ((if G (48 + dk) = 1 then 100 else 115))) (2) (97 + (gEnd G dk))) (2 + 1) (48 + (G (88 + dk)))) (4) (45)) (4 + 1) (48 + (G (96 + dk)))) (6) (43)))))), (aT, .inl (cI, 360, .inl To))] H := hP
            refine lv_goto (tgt := 192) hx hb dX7_line_162 (by decide) ?_
            refine lv_aload_n hx hb dX7_line_192 rfl (lv_at hl 1 rfl) ?_
            refine lv_aload_n hx hb dX7_line_193 rfl (lv_at hl 1 rfl) ?_
            refine va_get (D := D) (ci := 9) (v := .int (nI 7)) (C := RX7) (T := TX7) (N := 18) hx hb hts in_X7 hown hK.1 hP 0 rfl rfl 13 (by decide) fl_175 (fun _ h9 => h9) rfl dX7_line_194 ?_
            refine nv_kM (va_runV (As := [.int (nI 7)]) (rest := []) ⟨hx, hb, hml, hown, hts⟩ (c_X7_done l hD (nI (7))) (cwV 1 hts gX7_line_X7_done rfl rfl rfl (by decide +kernel) ⟨Nat.le_of_ble_eq_true rfl, Nat.le_of_ble_eq_true rfl⟩) (nv_pV hK hP (va_recv hK.1 hP (ci := 9) (q0 := 0) rfl rfl)) rfl rfl hl.1 rfl (lv_room (Nat.le_of_ble_eq_true rfl)) dX7_line_197 ⟨Nat.zero_le _, Nat.zero_le _⟩) hS (fun H locs hP hS => ?_)
            have hP : va_P D vwCl [(h, .inr (9, [.ref aG, .ref aB, .ref aH, .int (nI ch), .ref aS, .int (nI hs), .ref aI, .int (nI ty), .int ea, .int ra, .int (nI wy), .int wd, .ref aL, .int (nI 7), .int (nI 0), .int (nI sp), .int (nI iw), .ref aT])), (aG, .inl (cI, 128, .inl (gN G))), (aB, .inl (cI, 128, .inl (gN B))), (aH, .inl (cI, 1024, .inl (gN Hi))), (aS, .inl (cI, 128, .inl (gN Sv))), (aI, .inl (cI, 60, .inl (gN In))), (aL, .inl (cC, 40, .inl (gN ((va_up (va_up (va_up (va_up (va_up (va_up (va_up Le (0) (gl (G (40 + dk)))) (1) ((if G (48 + dk) = 1 then 100 else 115))) (2) (97 + (gEnd G dk))) (2 + 1) (48 + (G (88 + dk)))) (4) (45)) (4 + 1) (48 + (G (96 + dk)))) (6) (43)))))), (aT, .inl (cI, 360, .inl To))] H := hP
            exact nv_retM hq hx hb hr hlocks (nar_i _) (by rw [if_pos c1, et_dk]; unfold lnD; rw [if_pos c9, if_pos c11] <;> rfl) hS hP (by rw [if_pos c1, if_pos c1, if_pos c1, et_dk]; unfold lnD; rw [if_pos c9, if_pos c11] <;> rfl) dX7_line_200
        · refine lv_aload_n hx hb dX7_line_126 rfl (lv_at hl 1 rfl) ?_
          refine lv_bipush (v := nI 64) hx hb dX7_line_127 (by decide) ?_
          refine lv_aload_n hx hb dX7_line_129 rfl (lv_at hl 1 rfl) ?_
          refine va_get (D := D) (ci := 9) (v := .ref aG) (C := RX7) (T := TX7) (N := 18) hx hb hts in_X7 hown hK.1 hP 0 rfl rfl 0 (by decide) fl_7 (fun _ h9 => h9) rfl dX7_line_130 ?_
          refine lv_bipush (v := nI 56) hx hb dX7_line_133 (by decide) ?_
          refine lv_iload_n hx hb dX7_line_135 rfl (lv_at hl 2 rfl) ?_
          refine nv_iadd hx hb dX7_line_136 ?_
          refine nv_gald (i := 56 + dk) hx hb hK.1 hP 1 0 rfl rfl (by first | omega | (simp only [gEndAt]; omega)) (by decide) dX7_line_137 ?_
          have q15 : G (56 + dk) < 2 ^ 20 := hG.lt (k := 56 + dk) (by omega)
          refine lv_iconst (v := nI 1) hx hb dX7_line_138 (by decide) ?_
          refine nv_isub hx hb dX7_line_139 (by omega) ?_
          refine nv_kMv (va_runV (As := [.int (nI 64), .int (nI (G (56 + dk) - 1))]) (rest := []) ⟨hx, hb, hml, hown, hts⟩ (c_X7_writesBehind l hD 64 (G (56 + dk) - 1) (by omega) (by omega) (by omega)) (cwV 2 hts gX7_line_X7_writesBehind rfl rfl rfl (by decide +kernel) ⟨Nat.le_of_ble_eq_true rfl, Nat.le_of_ble_eq_true rfl⟩) (nv_pV hK hP (va_recv hK.1 hP (ci := 9) (q0 := 0) rfl rfl)) rfl rfl hl.1 rfl (lv_room (Nat.le_of_ble_eq_true rfl)) dX7_line_140 ⟨Nat.zero_le _, Nat.zero_le _⟩) hS (fun H locs hP hS => ?_)
          have hP : va_P D vwCl [(h, .inr (9, [.ref aG, .ref aB, .ref aH, .int (nI ch), .ref aS, .int (nI hs), .ref aI, .int (nI ty), .int ea, .int ra, .int (nI wy), .int wd, .ref aL, .int (nI 8), .int (nI th), .int (nI sp), .int (nI iw), .ref aT])), (aG, .inl (cI, 128, .inl (gN G))), (aB, .inl (cI, 128, .inl (gN B))), (aH, .inl (cI, 1024, .inl (gN Hi))), (aS, .inl (cI, 128, .inl (gN Sv))), (aI, .inl (cI, 60, .inl (gN In))), (aL, .inl (cC, 40, .inl (gN ((va_up (va_up (va_up (va_up (va_up (va_up (va_up (va_up Le (0) (gl (G (40 + dk)))) (1) ((if G (48 + dk) = 1 then 100 else 115))) (2) (97 + (gEnd G dk))) (2 + 1) (48 + (G (88 + dk)))) (4) (45)) (4 + 1) (48 + (G (96 + dk)))) (6) (64)) (6 + 1) (48 + (G (56 + dk) - 1))))))), (aT, .inl (cI, 360, .inl To))] H := hP
          refine lv_aload_n hx hb dX7_line_143 rfl (lv_at hl 1 rfl) ?_
          refine va_get (D := D) (ci := 9) (v := .ref aG) (C := RX7) (T := TX7) (N := 18) hx hb hts in_X7 hown hK.1 hP 0 rfl rfl 0 (by decide) fl_7 (fun _ h9 => h9) rfl dX7_line_144 ?_
          refine lv_bipush (v := nI 80) hx hb dX7_line_147 (by decide) ?_
          refine lv_iload_n hx hb dX7_line_149 rfl (lv_at hl 2 rfl) ?_
          refine nv_iadd hx hb dX7_line_150 ?_
          refine nv_gald (i := 80 + dk) hx hb hK.1 hP 1 0 rfl rfl (by first | omega | (simp only [gEndAt]; omega)) (by decide) dX7_line_151 ?_
          have q16 : G (80 + dk) < 2 ^ 20 := hG.lt (k := 80 + dk) (by omega)
          refine lv_iconst (v := nI 1) hx hb dX7_line_152 (by decide) ?_
          refine nv_icmp_ne (tgt := 165) hx hb dX7_line_153 (by decide) (by omega) (by omega) (fun c17 => ?_) (fun c17 => ?_)
          · refine lv_aload_n hx hb dX7_line_165 rfl (lv_at hl 1 rfl) ?_
            refine va_get (D := D) (ci := 9) (v := .ref aG) (C := RX7) (T := TX7) (N := 18) hx hb hts in_X7 hown hK.1 hP 0 rfl rfl 0 (by decide) fl_7 (fun _ h9 => h9) rfl dX7_line_166 ?_
            refine lv_bipush (v := nI 64) hx hb dX7_line_169 (by decide) ?_
            refine lv_iload_n hx hb dX7_line_171 rfl (lv_at hl 2 rfl) ?_
            refine nv_iadd hx hb dX7_line_172 ?_
            refine nv_gald (i := 64 + dk) hx hb hK.1 hP 1 0 rfl rfl (by first | omega | (simp only [gEndAt]; omega)) (by decide) dX7_line_173 ?_
            have q18 : G (64 + dk) < 2 ^ 20 := hG.lt (k := 64 + dk) (by omega)
            refine nv_if_le (tgt := 192) hx hb dX7_line_174 (by decide) (by omega) (fun c19 => ?_) (fun c19 => ?_)
            · refine lv_aload_n hx hb dX7_line_192 rfl (lv_at hl 1 rfl) ?_
              refine lv_aload_n hx hb dX7_line_193 rfl (lv_at hl 1 rfl) ?_
              refine va_get (D := D) (ci := 9) (v := .int (nI 8)) (C := RX7) (T := TX7) (N := 18) hx hb hts in_X7 hown hK.1 hP 0 rfl rfl 13 (by decide) fl_175 (fun _ h9 => h9) rfl dX7_line_194 ?_
              refine nv_kM (va_runV (As := [.int (nI 8)]) (rest := []) ⟨hx, hb, hml, hown, hts⟩ (c_X7_done l hD (nI (8))) (cwV 1 hts gX7_line_X7_done rfl rfl rfl (by decide +kernel) ⟨Nat.le_of_ble_eq_true rfl, Nat.le_of_ble_eq_true rfl⟩) (nv_pV hK hP (va_recv hK.1 hP (ci := 9) (q0 := 0) rfl rfl)) rfl rfl hl.1 rfl (lv_room (Nat.le_of_ble_eq_true rfl)) dX7_line_197 ⟨Nat.zero_le _, Nat.zero_le _⟩) hS (fun H locs hP hS => ?_)
              have hP : va_P D vwCl [(h, .inr (9, [.ref aG, .ref aB, .ref aH, .int (nI ch), .ref aS, .int (nI hs), .ref aI, .int (nI ty), .int ea, .int ra, .int (nI wy), .int wd, .ref aL, .int (nI 8), .int (nI 0), .int (nI sp), .int (nI iw), .ref aT])), (aG, .inl (cI, 128, .inl (gN G))), (aB, .inl (cI, 128, .inl (gN B))), (aH, .inl (cI, 1024, .inl (gN Hi))), (aS, .inl (cI, 128, .inl (gN Sv))), (aI, .inl (cI, 60, .inl (gN In))), (aL, .inl (cC, 40, .inl (gN ((va_up (va_up (va_up (va_up (va_up (va_up (va_up (va_up Le (0) (gl (G (40 + dk)))) (1) ((if G (48 + dk) = 1 then 100 else 115))) (2) (97 + (gEnd G dk))) (2 + 1) (48 + (G (88 + dk)))) (4) (45)) (4 + 1) (48 + (G (96 + dk)))) (6) (64)) (6 + 1) (48 + (G (56 + dk) - 1))))))), (aT, .inl (cI, 360, .inl To))] H := hP
              exact nv_retM hq hx hb hr hlocks (nar_i _) (by rw [if_pos c1, et_dk]; unfold lnD; rw [if_neg c9, if_neg c17, if_pos c19] <;> rfl) hS hP (by rw [if_pos c1, if_pos c1, if_pos c1, et_dk]; unfold lnD; rw [if_neg c9, if_neg c17, if_pos c19] <;> rfl) dX7_line_200
            · refine lv_aload_n hx hb dX7_line_177 rfl (lv_at hl 1 rfl) ?_
              refine lv_bipush (v := nI 33) hx hb dX7_line_178 (by decide) ?_
              refine lv_aload_n hx hb dX7_line_180 rfl (lv_at hl 1 rfl) ?_
              refine va_get (D := D) (ci := 9) (v := .ref aG) (C := RX7) (T := TX7) (N := 18) hx hb hts in_X7 hown hK.1 hP 0 rfl rfl 0 (by decide) fl_7 (fun _ h9 => h9) rfl dX7_line_181 ?_
              refine lv_bipush (v := nI 64) hx hb dX7_line_184 (by decide) ?_
              refine lv_iload_n hx hb dX7_line_186 rfl (lv_at hl 2 rfl) ?_
              refine nv_iadd hx hb dX7_line_187 ?_
              refine nv_gald (i := 64 + dk) hx hb hK.1 hP 1 0 rfl rfl (by first | omega | (simp only [gEndAt]; omega)) (by decide) dX7_line_188 ?_
              have q20 : G (64 + dk) < 2 ^ 20 := hG.lt (k := 64 + dk) (by omega)
              refine nv_kMv (va_runV (As := [.int (nI 33), .int (nI (G (64 + dk)))]) (rest := []) ⟨hx, hb, hml, hown, hts⟩ (c_X7_writesBehind l hD 33 (G (64 + dk)) (by omega) (by omega) (by omega)) (cwV 2 hts gX7_line_X7_writesBehind rfl rfl rfl (by decide +kernel) ⟨Nat.le_of_ble_eq_true rfl, Nat.le_of_ble_eq_true rfl⟩) (nv_pV hK hP (va_recv hK.1 hP (ci := 9) (q0 := 0) rfl rfl)) rfl rfl hl.1 rfl (lv_room (Nat.le_of_ble_eq_true rfl)) dX7_line_189 ⟨Nat.zero_le _, Nat.zero_le _⟩) hS (fun H locs hP hS => ?_)
              have hP : va_P D vwCl [(h, .inr (9, [.ref aG, .ref aB, .ref aH, .int (nI ch), .ref aS, .int (nI hs), .ref aI, .int (nI ty), .int ea, .int ra, .int (nI wy), .int wd, .ref aL, .int (nI 10), .int (nI th), .int (nI sp), .int (nI iw), .ref aT])), (aG, .inl (cI, 128, .inl (gN G))), (aB, .inl (cI, 128, .inl (gN B))), (aH, .inl (cI, 1024, .inl (gN Hi))), (aS, .inl (cI, 128, .inl (gN Sv))), (aI, .inl (cI, 60, .inl (gN In))), (aL, .inl (cC, 40, .inl (gN ((va_up (va_up (va_up (va_up (va_up (va_up (va_up (va_up (va_up (va_up Le (0) (gl (G (40 + dk)))) (1) ((if G (48 + dk) = 1 then 100 else 115))) (2) (97 + (gEnd G dk))) (2 + 1) (48 + (G (88 + dk)))) (4) (45)) (4 + 1) (48 + (G (96 + dk)))) (6) (64)) (6 + 1) (48 + (G (56 + dk) - 1))) (8) (33)) (8 + 1) (48 + (G (64 + dk)))))))), (aT, .inl (cI, 360, .inl To))] H := hP
              refine lv_aload_n hx hb dX7_line_192 rfl (lv_at hl 1 rfl) ?_
              refine lv_aload_n hx hb dX7_line_193 rfl (lv_at hl 1 rfl) ?_
              refine va_get (D := D) (ci := 9) (v := .int (nI 10)) (C := RX7) (T := TX7) (N := 18) hx hb hts in_X7 hown hK.1 hP 0 rfl rfl 13 (by decide) fl_175 (fun _ h9 => h9) rfl dX7_line_194 ?_
              refine nv_kM (va_runV (As := [.int (nI 10)]) (rest := []) ⟨hx, hb, hml, hown, hts⟩ (c_X7_done l hD (nI (10))) (cwV 1 hts gX7_line_X7_done rfl rfl rfl (by decide +kernel) ⟨Nat.le_of_ble_eq_true rfl, Nat.le_of_ble_eq_true rfl⟩) (nv_pV hK hP (va_recv hK.1 hP (ci := 9) (q0 := 0) rfl rfl)) rfl rfl hl.1 rfl (lv_room (Nat.le_of_ble_eq_true rfl)) dX7_line_197 ⟨Nat.zero_le _, Nat.zero_le _⟩) hS (fun H locs hP hS => ?_)
              have hP : va_P D vwCl [(h, .inr (9, [.ref aG, .ref aB, .ref aH, .int (nI ch), .ref aS, .int (nI hs), .ref aI, .int (nI ty), .int ea, .int ra, .int (nI wy), .int wd, .ref aL, .int (nI 10), .int (nI 0), .int (nI sp), .int (nI iw), .ref aT])), (aG, .inl (cI, 128, .inl (gN G))), (aB, .inl (cI, 128, .inl (gN B))), (aH, .inl (cI, 1024, .inl (gN Hi))), (aS, .inl (cI, 128, .inl (gN Sv))), (aI, .inl (cI, 60, .inl (gN In))), (aL, .inl (cC, 40, .inl (gN ((va_up (va_up (va_up (va_up (va_up (va_up (va_up (va_up (va_up (va_up Le (0) (gl (G (40 + dk)))) (1) ((if G (48 + dk) = 1 then 100 else 115))) (2) (97 + (gEnd G dk))) (2 + 1) (48 + (G (88 + dk)))) (4) (45)) (4 + 1) (48 + (G (96 + dk)))) (6) (64)) (6 + 1) (48 + (G (56 + dk) - 1))) (8) (33)) (8 + 1) (48 + (G (64 + dk)))))))), (aT, .inl (cI, 360, .inl To))] H := hP
              exact nv_retM hq hx hb hr hlocks (nar_i _) (by rw [if_pos c1, et_dk]; unfold lnD; rw [if_neg c9, if_neg c17, if_neg c19] <;> rfl) hS hP (by rw [if_pos c1, if_pos c1, if_pos c1, et_dk]; unfold lnD; rw [if_neg c9, if_neg c17, if_neg c19] <;> rfl) dX7_line_200
          · refine lv_aload_n hx hb dX7_line_156 rfl (lv_at hl 1 rfl) ?_
            refine lv_bipush (v := nI 43) hx hb dX7_line_157 (by decide) ?_
            refine nv_kMv (va_runV (As := [.int (nI 43)]) (rest := []) ⟨hx, hb, hml, hown, hts⟩ (c_X7_writes l hD 43 (by first | omega | (unfold gl; split; omega; split <;> omega) | (split <;> omega)) (by omega)) (cwV 1 hts gX7_line_X7_writes rfl rfl rfl (by decide +kernel) ⟨Nat.le_of_ble_eq_true rfl, Nat.le_of_ble_eq_true rfl⟩) (nv_pV hK hP (va_recv hK.1 hP (ci := 9) (q0 := 0) rfl rfl)) rfl rfl hl.1 rfl (lv_room (Nat.le_of_ble_eq_true rfl)) dX7_line_159 ⟨Nat.zero_le _, Nat.zero_le _⟩) hS (fun H locs hP hS => ?_)
            have hP : va_P D vwCl [(h, .inr (9, [.ref aG, .ref aB, .ref aH, .int (nI ch), .ref aS, .int (nI hs), .ref aI, .int (nI ty), .int ea, .int ra, .int (nI wy), .int wd, .ref aL, .int (nI 9), .int (nI th), .int (nI sp), .int (nI iw), .ref aT])), (aG, .inl (cI, 128, .inl (gN G))), (aB, .inl (cI, 128, .inl (gN B))), (aH, .inl (cI, 1024, .inl (gN Hi))), (aS, .inl (cI, 128, .inl (gN Sv))), (aI, .inl (cI, 60, .inl (gN In))), (aL, .inl (cC, 40, .inl (gN ((va_up (va_up (va_up (va_up (va_up (va_up (va_up (va_up (va_up Le (0) (gl (G (40 + dk)))) (1) ((if G (48 + dk) = 1 then 100 else 115))) (2) (97 + (gEnd G dk))) (2 + 1) (48 + (G (88 + dk)))) (4) (45)) (4 + 1) (48 + (G (96 + dk)))) (6) (64)) (6 + 1) (48 + (G (56 + dk) - 1))) (8) (43)))))), (aT, .inl (cI, 360, .inl To))] H := hP
            refine lv_goto (tgt := 192) hx hb dX7_line_162 (by decide) ?_
            refine lv_aload_n hx hb dX7_line_192 rfl (lv_at hl 1 rfl) ?_
            refine lv_aload_n hx hb dX7_line_193 rfl (lv_at hl 1 rfl) ?_
            refine va_get (D := D) (ci := 9) (v := .int (nI 9)) (C := RX7) (T := TX7) (N := 18) hx hb hts in_X7 hown hK.1 hP 0 rfl rfl 13 (by decide) fl_175 (fun _ h9 => h9) rfl dX7_line_194 ?_
            refine nv_kM (va_runV (As := [.int (nI 9)]) (rest := []) ⟨hx, hb, hml, hown, hts⟩ (c_X7_done l hD (nI (9))) (cwV 1 hts gX7_line_X7_done rfl rfl rfl (by decide +kernel) ⟨Nat.le_of_ble_eq_true rfl, Nat.le_of_ble_eq_true rfl⟩) (nv_pV hK hP (va_recv hK.1 hP (ci := 9) (q0 := 0) rfl rfl)) rfl rfl hl.1 rfl (lv_room (Nat.le_of_ble_eq_true rfl)) dX7_line_197 ⟨Nat.zero_le _, Nat.zero_le _⟩) hS (fun H locs hP hS => ?_)
            have hP : va_P D vwCl [(h, .inr (9, [.ref aG, .ref aB, .ref aH, .int (nI ch), .ref aS, .int (nI hs), .ref aI, .int (nI ty), .int ea, .int ra, .int (nI wy), .int wd, .ref aL, .int (nI 9), .int (nI 0), .int (nI sp), .int (nI iw), .ref aT])), (aG, .inl (cI, 128, .inl (gN G))), (aB, .inl (cI, 128, .inl (gN B))), (aH, .inl (cI, 1024, .inl (gN Hi))), (aS, .inl (cI, 128, .inl (gN Sv))), (aI, .inl (cI, 60, .inl (gN In))), (aL, .inl (cC, 40, .inl (gN ((va_up (va_up (va_up (va_up (va_up (va_up (va_up (va_up (va_up Le (0) (gl (G (40 + dk)))) (1) ((if G (48 + dk) = 1 then 100 else 115))) (2) (97 + (gEnd G dk))) (2 + 1) (48 + (G (88 + dk)))) (4) (45)) (4 + 1) (48 + (G (96 + dk)))) (6) (64)) (6 + 1) (48 + (G (56 + dk) - 1))) (8) (43)))))), (aT, .inl (cI, 360, .inl To))] H := hP
            exact nv_retM hq hx hb hr hlocks (nar_i _) (by rw [if_pos c1, et_dk]; unfold lnD; rw [if_neg c9, if_pos c17] <;> rfl) hS hP (by rw [if_pos c1, if_pos c1, if_pos c1, et_dk]; unfold lnD; rw [if_neg c9, if_pos c17] <;> rfl) dX7_line_200
      · refine nv_icmp_ne (tgt := 73) hx hb dX7_line_65 (by decide) (by omega) (by omega) (fun c5 => ?_) (fun c5 => ?_)
        · refine lv_bipush (v := nI 115) hx hb dX7_line_73 (by decide) ?_
          exact hJ _ (if_neg c5).symm
        · refine lv_bipush (v := nI 100) hx hb dX7_line_68 (by decide) ?_
          refine lv_goto (tgt := 75) hx hb dX7_line_70 (by decide) ?_
          exact hJ _ (if_pos c5).symm
    · refine nv_if_ne (tgt := 39) hx hb dX7_line_31 (by decide) (by omega) (fun c3 => ?_) (fun c3 => ?_)
      · refine lv_iload_n hx hb dX7_line_39 rfl (lv_at hl 0 rfl) ?_
        refine lv_iconst (v := nI 1) hx hb dX7_line_40 (by decide) ?_
        refine nv_icmp_ne (tgt := 49) hx hb dX7_line_41 (by decide) (by omega) (by omega) (fun c21 => ?_) (fun c21 => ?_)
        · refine lv_bipush (v := nI 103) hx hb dX7_line_49 (by decide) ?_
          exact hJ _ (by rw [if_neg c3, if_neg c21])
        · refine lv_bipush (v := nI 105) hx hb dX7_line_44 (by decide) ?_
          refine lv_goto (tgt := 51) hx hb dX7_line_46 (by decide) ?_
          exact hJ _ (by rw [if_neg c3, if_pos c21])
      · refine lv_bipush (v := nI 111) hx hb dX7_line_34 (by decide) ?_
        refine lv_goto (tgt := 51) hx hb dX7_line_36 (by decide) ?_
        exact hJ _ (if_pos c3).symm
  · refine lv_aload_n hx hb dX7_line_8 rfl (lv_at hl 0 rfl) ?_
    refine lv_iconst (v := nI 1) hx hb dX7_line_9 (by decide) ?_
    refine nv_kM (va_runV (As := [.int (nI 1)]) (rest := []) ⟨hx, hb, hml, hown, hts⟩ (c_X7_fails l hD 1) (cwV 1 hts gX7_line_X7_fails rfl rfl rfl (by decide +kernel) ⟨Nat.le_of_ble_eq_true rfl, Nat.le_of_ble_eq_true rfl⟩) (nv_pV hK hP (va_recv hK.1 hP (ci := 9) (q0 := 0) rfl rfl)) rfl rfl hl.1 rfl (lv_room (Nat.le_of_ble_eq_true rfl)) dX7_line_10 ⟨Nat.zero_le _, Nat.zero_le _⟩) hS (fun H locs hP hS => ?_)
    have hP : va_P D vwCl [(h, .inr (9, [.ref aG, .ref aB, .ref aH, .int (nI ch), .ref aS, .int (nI hs), .ref aI, .int (nI ty), .int ea, .int ra, .int (nI wy), .int wd, .ref aL, .int (nI ln), .int (nI 1), .int (nI sp), .int (nI iw), .ref aT])), (aG, .inl (cI, 128, .inl (gN G))), (aB, .inl (cI, 128, .inl (gN B))), (aH, .inl (cI, 1024, .inl (gN Hi))), (aS, .inl (cI, 128, .inl (gN Sv))), (aI, .inl (cI, 60, .inl (gN In))), (aL, .inl (cC, 40, .inl (gN Le))), (aT, .inl (cI, 360, .inl To))] H := hP
    exact nv_retM hq hx hb hr hlocks (nar_i _) (by rw [if_neg c1] <;> rfl) hS hP (by rw [if_neg c1, if_neg c1, if_neg c1]) dX7_line_13

set_option maxHeartbeats 1000000 in
set_option maxRecDepth 100000 in
theorem c_X7_writesEndings (l : Launch) {D : va_G} {cI cC : ClassId} {h aG aB aH aS aI aL aT : Nat} {G B Hi Sv In Le : Nat → Nat} {To : Nat → Int32} {ch hs ty wy ln th sp iw : Nat} {ea ra wd : Int32} {A : Nat → Prop} (hD : ∀ (G B Hi Sv In Le : Nat → Nat) (To : Nat → Int32) (fs : List Value), va_D A [(h, .inr (9, fs)), (aG, .inl (cI, 128, .inl (gN G))), (aB, .inl (cI, 128, .inl (gN B))), (aH, .inl (cI, 1024, .inl (gN Hi))), (aS, .inl (cI, 128, .inl (gN Sv))), (aI, .inl (cI, 60, .inl (gN In))), (aL, .inl (cC, 40, .inl (gN Le))), (aT, .inl (cI, 360, .inl To))]) {b : Nat} (hG : gWf b G) (a z : Nat) (ha : a < 3) (hz : z ≤ 1) (hln : ln + 4 < 40) : Met l yX7_writesEndings wsX7_writesEndings ({ frames := 1, cells := 0, slots := 0, locals := 22 }) (va_Pc [.ref h, .int (nI a), .int (nI z)] (sPre D [(cI, .int), (cC, .char)] [] (fun H => va_P D vwCl [(h, .inr (9, [.ref aG, .ref aB, .ref aH, .int (nI ch), .ref aS, .int (nI hs), .ref aI, .int (nI ty), .int ea, .int ra, .int (nI wy), .int wd, .ref aL, .int (nI ln), .int (nI th), .int (nI sp), .int (nI iw), .ref aT])), (aG, .inl (cI, 128, .inl (gN G))), (aB, .inl (cI, 128, .inl (gN B))), (aH, .inl (cI, 1024, .inl (gN Hi))), (aS, .inl (cI, 128, .inl (gN Sv))), (aI, .inl (cI, 60, .inl (gN In))), (aL, .inl (cC, 40, .inl (gN Le))), (aT, .inl (cI, 360, .inl To))] H))) (mQv D [(h, .inr (9, [.ref aG, .ref aB, .ref aH, .int (nI ch), .ref aS, .int (nI hs), .ref aI, .int (nI ty), .int ea, .int ra, .int (nI wy), .int wd, .ref aL, .int (nI (ln + 4)), .int (nI th), .int (nI sp), .int (nI iw), .ref aT])), (aG, .inl (cI, 128, .inl (gN G))), (aB, .inl (cI, 128, .inl (gN B))), (aH, .inl (cI, 1024, .inl (gN Hi))), (aS, .inl (cI, 128, .inl (gN Sv))), (aI, .inl (cI, 60, .inl (gN In))), (aL, .inl (cC, 40, .inl (gN ((wrL (enH G a z) Le ln))))), (aT, .inl (cI, 360, .inl To))] A) 0 0 A := by
  refine nv_met (cc := cX7_writesEndings) (maxL := 4) (ret := none) (by decide) rfl (Nat.le_of_ble_eq_true rfl) ?_
  intro p0 e0 s m0 args below meth c0 Q hq hargs hnA hpre ls hl
  obtain ⟨hx, hb, hr, hts, hown, hlocks, hml⟩ := hnA
  obtain ⟨hP, hK⟩ := hpre
  have hown : s.vm.findClass RX7 = some m0.cls := hown
  have hP : va_P D vwCl [(h, .inr (9, [.ref aG, .ref aB, .ref aH, .int (nI ch), .ref aS, .int (nI hs), .ref aI, .int (nI ty), .int ea, .int ra, .int (nI wy), .int wd, .ref aL, .int (nI ln), .int (nI th), .int (nI sp), .int (nI iw), .ref aT])), (aG, .inl (cI, 128, .inl (gN G))), (aB, .inl (cI, 128, .inl (gN B))), (aH, .inl (cI, 1024, .inl (gN Hi))), (aS, .inl (cI, 128, .inl (gN Sv))), (aI, .inl (cI, 60, .inl (gN In))), (aL, .inl (cC, 40, .inl (gN Le))), (aT, .inl (cI, 360, .inl To))] s.heap := hP
  have hl : lv_has ls 4 [(0, .ref h), (1, .int (nI a)), (2, .int (nI z))] := hl
  have hS : va_S A s.heap s.heap [] := va_S.rf
  have in_X7 : ∀ w ∈ wsX70, w ∈ wsX7_writesEndings := by decide +kernel
  have fl_7 := hts (.fieldLink RX7 7 "DoorDialectModel" "g" "[I") (by decide +kernel)
  obtain ⟨g_b, g_k, g_0, g_1, g_2, g_e, g_d, g_t, g_y, g_s, g_h⟩ := id hG
  refine lv_iconst (v := nI 0) hx hb dX7_writesEndings_0 (by decide) ?_
  refine lv_istore_n (lv' := [(3, .int (nI 0)), (0, .ref h), (1, .int (nI a)), (2, .int (nI z))]) hx hb dX7_writesEndings_1 rfl hl (by decide) rfl (fun ls hl => ?_)
  refine lv_iload_n hx hb dX7_writesEndings_2 rfl (lv_at hl 0 rfl) ?_
  refine lv_iconst (v := nI 4) hx hb dX7_writesEndings_3 (by decide) ?_
  refine nv_icmp_ge (tgt := 31) hx hb dX7_writesEndings_4 (by decide) (by omega) (by omega) (fun c1 => ?_) (fun c1 => ?_)
  · exact absurd c1 (by decide)
  · refine lv_aload_n hx hb dX7_writesEndings_7 rfl (lv_at hl 1 rfl) ?_
    refine lv_bipush (v := nI 97) hx hb dX7_writesEndings_8 (by decide) ?_
    refine lv_aload_n hx hb dX7_writesEndings_10 rfl (lv_at hl 1 rfl) ?_
    refine va_get (D := D) (ci := 9) (v := .ref aG) (C := RX7) (T := TX7) (N := 18) hx hb hts in_X7 hown hK.1 hP 0 rfl rfl 0 (by decide) fl_7 (fun _ h9 => h9) rfl dX7_writesEndings_11 ?_
    refine lv_iload_n hx hb dX7_writesEndings_14 rfl (lv_at hl 2 rfl) ?_
    refine lv_iload_n hx hb dX7_writesEndings_15 rfl (lv_at hl 0 rfl) ?_
    refine lv_iload_n hx hb dX7_writesEndings_16 rfl (lv_at hl 3 rfl) ?_
    refine nv_kS (va_runS (As := [.int (nI a), .int (nI 0), .int (nI z)]) (rest := [.ref aG, .int (nI 97), .ref h]) ⟨hx, hb, hml, hown, hts⟩ (c_X7_endingAt l a 0 z) (va_cwS 3 hts gX7_writesEndings_X7_endingAt rfl rfl rfl (by decide +kernel) ⟨Nat.le_of_ble_eq_true rfl, Nat.le_of_ble_eq_true rfl⟩) (nv_pS hK trivial) rfl rfl hl.1 rfl (lv_room (Nat.le_of_ble_eq_true rfl)) dX7_writesEndings_17 ⟨Nat.zero_le _, Nat.zero_le _⟩) ?_
    refine nv_gald (i := gEndAt a 0 z) hx hb hK.1 hP 1 0 rfl rfl (by simp only [gEndAt]; omega) (by decide) dX7_writesEndings_20 ?_
    refine nv_iadd hx hb dX7_writesEndings_21 ?_
    refine nv_kMv (va_runV (As := [.int (nI (97 + (G (gEndAt a 0 z))))]) (rest := []) ⟨hx, hb, hml, hown, hts⟩ (c_X7_writes l hD (97 + (G (gEndAt a 0 z))) (by have := gEnds_le hG ha hz 0 (by omega); have := gEnds_le hG ha hz 1 (by omega); have := gEnds_le hG ha hz 2 (by omega); have := gEnds_le hG ha hz 3 (by omega); omega) (by omega)) (cwV 1 hts gX7_writesEndings_X7_writes rfl rfl rfl (by decide +kernel) ⟨Nat.le_of_ble_eq_true rfl, Nat.le_of_ble_eq_true rfl⟩) (nv_pV hK hP (va_recv hK.1 hP (ci := 9) (q0 := 0) rfl rfl)) rfl rfl hl.1 rfl (lv_room (Nat.le_of_ble_eq_true rfl)) dX7_writesEndings_22 ⟨Nat.zero_le _, Nat.zero_le _⟩) hS (fun H locs hP hS => ?_)
    have hP : va_P D vwCl [(h, .inr (9, [.ref aG, .ref aB, .ref aH, .int (nI ch), .ref aS, .int (nI hs), .ref aI, .int (nI ty), .int ea, .int ra, .int (nI wy), .int wd, .ref aL, .int (nI (ln + 1)), .int (nI th), .int (nI sp), .int (nI iw), .ref aT])), (aG, .inl (cI, 128, .inl (gN G))), (aB, .inl (cI, 128, .inl (gN B))), (aH, .inl (cI, 1024, .inl (gN Hi))), (aS, .inl (cI, 128, .inl (gN Sv))), (aI, .inl (cI, 60, .inl (gN In))), (aL, .inl (cC, 40, .inl (gN ((va_up Le (ln) (97 + (G (gEndAt a 0 z)))))))), (aT, .inl (cI, 360, .inl To))] H := hP
    refine lv_iinc (v := nI (1)) (lv' := [(3, .int (nI 1)), (0, .ref h), (1, .int (nI a)), (2, .int (nI z))]) hx hb dX7_writesEndings_25 hl (k := 0) rfl (by show nI _ + Int32.ofInt 1 = _; exact nI_add _ 1) (by decide) rfl (fun ls hl => ?_)
    refine lv_goto (tgt := 2) hx hb dX7_writesEndings_28 (by decide) ?_
    refine lv_iload_n hx hb dX7_writesEndings_2 rfl (lv_at hl 0 rfl) ?_
    refine lv_iconst (v := nI 4) hx hb dX7_writesEndings_3 (by decide) ?_
    refine nv_icmp_ge (tgt := 31) hx hb dX7_writesEndings_4 (by decide) (by omega) (by omega) (fun c2 => ?_) (fun c2 => ?_)
    · exact absurd c2 (by decide)
    · refine lv_aload_n hx hb dX7_writesEndings_7 rfl (lv_at hl 1 rfl) ?_
      refine lv_bipush (v := nI 97) hx hb dX7_writesEndings_8 (by decide) ?_
      refine lv_aload_n hx hb dX7_writesEndings_10 rfl (lv_at hl 1 rfl) ?_
      refine va_get (D := D) (ci := 9) (v := .ref aG) (C := RX7) (T := TX7) (N := 18) hx hb hts in_X7 hown hK.1 hP 0 rfl rfl 0 (by decide) fl_7 (fun _ h9 => h9) rfl dX7_writesEndings_11 ?_
      refine lv_iload_n hx hb dX7_writesEndings_14 rfl (lv_at hl 2 rfl) ?_
      refine lv_iload_n hx hb dX7_writesEndings_15 rfl (lv_at hl 0 rfl) ?_
      refine lv_iload_n hx hb dX7_writesEndings_16 rfl (lv_at hl 3 rfl) ?_
      refine nv_kS (va_runS (As := [.int (nI a), .int (nI 1), .int (nI z)]) (rest := [.ref aG, .int (nI 97), .ref h]) ⟨hx, hb, hml, hown, hts⟩ (c_X7_endingAt l a 1 z) (va_cwS 3 hts gX7_writesEndings_X7_endingAt rfl rfl rfl (by decide +kernel) ⟨Nat.le_of_ble_eq_true rfl, Nat.le_of_ble_eq_true rfl⟩) (nv_pS hK trivial) rfl rfl hl.1 rfl (lv_room (Nat.le_of_ble_eq_true rfl)) dX7_writesEndings_17 ⟨Nat.zero_le _, Nat.zero_le _⟩) ?_
      refine nv_gald (i := gEndAt a 1 z) hx hb hK.1 hP 1 0 rfl rfl (by simp only [gEndAt]; omega) (by decide) dX7_writesEndings_20 ?_
      refine nv_iadd hx hb dX7_writesEndings_21 ?_
      refine nv_kMv (va_runV (As := [.int (nI (97 + (G (gEndAt a 1 z))))]) (rest := []) ⟨hx, hb, hml, hown, hts⟩ (c_X7_writes l hD (97 + (G (gEndAt a 1 z))) (by have := gEnds_le hG ha hz 0 (by omega); have := gEnds_le hG ha hz 1 (by omega); have := gEnds_le hG ha hz 2 (by omega); have := gEnds_le hG ha hz 3 (by omega); omega) (by omega)) (cwV 1 hts gX7_writesEndings_X7_writes rfl rfl rfl (by decide +kernel) ⟨Nat.le_of_ble_eq_true rfl, Nat.le_of_ble_eq_true rfl⟩) (nv_pV hK hP (va_recv hK.1 hP (ci := 9) (q0 := 0) rfl rfl)) rfl rfl hl.1 rfl (lv_room (Nat.le_of_ble_eq_true rfl)) dX7_writesEndings_22 ⟨Nat.zero_le _, Nat.zero_le _⟩) hS (fun H locs hP hS => ?_)
      have hP : va_P D vwCl [(h, .inr (9, [.ref aG, .ref aB, .ref aH, .int (nI ch), .ref aS, .int (nI hs), .ref aI, .int (nI ty), .int ea, .int ra, .int (nI wy), .int wd, .ref aL, .int (nI (ln + 1 + 1)), .int (nI th), .int (nI sp), .int (nI iw), .ref aT])), (aG, .inl (cI, 128, .inl (gN G))), (aB, .inl (cI, 128, .inl (gN B))), (aH, .inl (cI, 1024, .inl (gN Hi))), (aS, .inl (cI, 128, .inl (gN Sv))), (aI, .inl (cI, 60, .inl (gN In))), (aL, .inl (cC, 40, .inl (gN ((va_up (va_up Le (ln) (97 + (G (gEndAt a 0 z)))) (ln + 1) (97 + (G (gEndAt a 1 z)))))))), (aT, .inl (cI, 360, .inl To))] H := hP
      refine lv_iinc (v := nI (2)) (lv' := [(3, .int (nI 2)), (0, .ref h), (1, .int (nI a)), (2, .int (nI z))]) hx hb dX7_writesEndings_25 hl (k := 0) rfl (by show nI _ + Int32.ofInt 1 = _; exact nI_add _ 1) (by decide) rfl (fun ls hl => ?_)
      refine lv_goto (tgt := 2) hx hb dX7_writesEndings_28 (by decide) ?_
      refine lv_iload_n hx hb dX7_writesEndings_2 rfl (lv_at hl 0 rfl) ?_
      refine lv_iconst (v := nI 4) hx hb dX7_writesEndings_3 (by decide) ?_
      refine nv_icmp_ge (tgt := 31) hx hb dX7_writesEndings_4 (by decide) (by omega) (by omega) (fun c3 => ?_) (fun c3 => ?_)
      · exact absurd c3 (by decide)
      · refine lv_aload_n hx hb dX7_writesEndings_7 rfl (lv_at hl 1 rfl) ?_
        refine lv_bipush (v := nI 97) hx hb dX7_writesEndings_8 (by decide) ?_
        refine lv_aload_n hx hb dX7_writesEndings_10 rfl (lv_at hl 1 rfl) ?_
        refine va_get (D := D) (ci := 9) (v := .ref aG) (C := RX7) (T := TX7) (N := 18) hx hb hts in_X7 hown hK.1 hP 0 rfl rfl 0 (by decide) fl_7 (fun _ h9 => h9) rfl dX7_writesEndings_11 ?_
        refine lv_iload_n hx hb dX7_writesEndings_14 rfl (lv_at hl 2 rfl) ?_
        refine lv_iload_n hx hb dX7_writesEndings_15 rfl (lv_at hl 0 rfl) ?_
        refine lv_iload_n hx hb dX7_writesEndings_16 rfl (lv_at hl 3 rfl) ?_
        refine nv_kS (va_runS (As := [.int (nI a), .int (nI 2), .int (nI z)]) (rest := [.ref aG, .int (nI 97), .ref h]) ⟨hx, hb, hml, hown, hts⟩ (c_X7_endingAt l a 2 z) (va_cwS 3 hts gX7_writesEndings_X7_endingAt rfl rfl rfl (by decide +kernel) ⟨Nat.le_of_ble_eq_true rfl, Nat.le_of_ble_eq_true rfl⟩) (nv_pS hK trivial) rfl rfl hl.1 rfl (lv_room (Nat.le_of_ble_eq_true rfl)) dX7_writesEndings_17 ⟨Nat.zero_le _, Nat.zero_le _⟩) ?_
        refine nv_gald (i := gEndAt a 2 z) hx hb hK.1 hP 1 0 rfl rfl (by simp only [gEndAt]; omega) (by decide) dX7_writesEndings_20 ?_
        refine nv_iadd hx hb dX7_writesEndings_21 ?_
        refine nv_kMv (va_runV (As := [.int (nI (97 + (G (gEndAt a 2 z))))]) (rest := []) ⟨hx, hb, hml, hown, hts⟩ (c_X7_writes l hD (97 + (G (gEndAt a 2 z))) (by have := gEnds_le hG ha hz 0 (by omega); have := gEnds_le hG ha hz 1 (by omega); have := gEnds_le hG ha hz 2 (by omega); have := gEnds_le hG ha hz 3 (by omega); omega) (by omega)) (cwV 1 hts gX7_writesEndings_X7_writes rfl rfl rfl (by decide +kernel) ⟨Nat.le_of_ble_eq_true rfl, Nat.le_of_ble_eq_true rfl⟩) (nv_pV hK hP (va_recv hK.1 hP (ci := 9) (q0 := 0) rfl rfl)) rfl rfl hl.1 rfl (lv_room (Nat.le_of_ble_eq_true rfl)) dX7_writesEndings_22 ⟨Nat.zero_le _, Nat.zero_le _⟩) hS (fun H locs hP hS => ?_)
        have hP : va_P D vwCl [(h, .inr (9, [.ref aG, .ref aB, .ref aH, .int (nI ch), .ref aS, .int (nI hs), .ref aI, .int (nI ty), .int ea, .int ra, .int (nI wy), .int wd, .ref aL, .int (nI (ln + 1 + 1 + 1)), .int (nI th), .int (nI sp), .int (nI iw), .ref aT])), (aG, .inl (cI, 128, .inl (gN G))), (aB, .inl (cI, 128, .inl (gN B))), (aH, .inl (cI, 1024, .inl (gN Hi))), (aS, .inl (cI, 128, .inl (gN Sv))), (aI, .inl (cI, 60, .inl (gN In))), (aL, .inl (cC, 40, .inl (gN ((va_up (va_up (va_up Le (ln) (97 + (G (gEndAt a 0 z)))) (ln + 1) (97 + (G (gEndAt a 1 z)))) (ln + 1 + 1) (97 + (G (gEndAt a 2 z)))))))), (aT, .inl (cI, 360, .inl To))] H := hP
        refine lv_iinc (v := nI (3)) (lv' := [(3, .int (nI 3)), (0, .ref h), (1, .int (nI a)), (2, .int (nI z))]) hx hb dX7_writesEndings_25 hl (k := 0) rfl (by show nI _ + Int32.ofInt 1 = _; exact nI_add _ 1) (by decide) rfl (fun ls hl => ?_)
        refine lv_goto (tgt := 2) hx hb dX7_writesEndings_28 (by decide) ?_
        refine lv_iload_n hx hb dX7_writesEndings_2 rfl (lv_at hl 0 rfl) ?_
        refine lv_iconst (v := nI 4) hx hb dX7_writesEndings_3 (by decide) ?_
        refine nv_icmp_ge (tgt := 31) hx hb dX7_writesEndings_4 (by decide) (by omega) (by omega) (fun c4 => ?_) (fun c4 => ?_)
        · exact absurd c4 (by decide)
        · refine lv_aload_n hx hb dX7_writesEndings_7 rfl (lv_at hl 1 rfl) ?_
          refine lv_bipush (v := nI 97) hx hb dX7_writesEndings_8 (by decide) ?_
          refine lv_aload_n hx hb dX7_writesEndings_10 rfl (lv_at hl 1 rfl) ?_
          refine va_get (D := D) (ci := 9) (v := .ref aG) (C := RX7) (T := TX7) (N := 18) hx hb hts in_X7 hown hK.1 hP 0 rfl rfl 0 (by decide) fl_7 (fun _ h9 => h9) rfl dX7_writesEndings_11 ?_
          refine lv_iload_n hx hb dX7_writesEndings_14 rfl (lv_at hl 2 rfl) ?_
          refine lv_iload_n hx hb dX7_writesEndings_15 rfl (lv_at hl 0 rfl) ?_
          refine lv_iload_n hx hb dX7_writesEndings_16 rfl (lv_at hl 3 rfl) ?_
          refine nv_kS (va_runS (As := [.int (nI a), .int (nI 3), .int (nI z)]) (rest := [.ref aG, .int (nI 97), .ref h]) ⟨hx, hb, hml, hown, hts⟩ (c_X7_endingAt l a 3 z) (va_cwS 3 hts gX7_writesEndings_X7_endingAt rfl rfl rfl (by decide +kernel) ⟨Nat.le_of_ble_eq_true rfl, Nat.le_of_ble_eq_true rfl⟩) (nv_pS hK trivial) rfl rfl hl.1 rfl (lv_room (Nat.le_of_ble_eq_true rfl)) dX7_writesEndings_17 ⟨Nat.zero_le _, Nat.zero_le _⟩) ?_
          refine nv_gald (i := gEndAt a 3 z) hx hb hK.1 hP 1 0 rfl rfl (by simp only [gEndAt]; omega) (by decide) dX7_writesEndings_20 ?_
          refine nv_iadd hx hb dX7_writesEndings_21 ?_
          refine nv_kMv (va_runV (As := [.int (nI (97 + (G (gEndAt a 3 z))))]) (rest := []) ⟨hx, hb, hml, hown, hts⟩ (c_X7_writes l hD (97 + (G (gEndAt a 3 z))) (by have := gEnds_le hG ha hz 0 (by omega); have := gEnds_le hG ha hz 1 (by omega); have := gEnds_le hG ha hz 2 (by omega); have := gEnds_le hG ha hz 3 (by omega); omega) (by omega)) (cwV 1 hts gX7_writesEndings_X7_writes rfl rfl rfl (by decide +kernel) ⟨Nat.le_of_ble_eq_true rfl, Nat.le_of_ble_eq_true rfl⟩) (nv_pV hK hP (va_recv hK.1 hP (ci := 9) (q0 := 0) rfl rfl)) rfl rfl hl.1 rfl (lv_room (Nat.le_of_ble_eq_true rfl)) dX7_writesEndings_22 ⟨Nat.zero_le _, Nat.zero_le _⟩) hS (fun H locs hP hS => ?_)
          have hP : va_P D vwCl [(h, .inr (9, [.ref aG, .ref aB, .ref aH, .int (nI ch), .ref aS, .int (nI hs), .ref aI, .int (nI ty), .int ea, .int ra, .int (nI wy), .int wd, .ref aL, .int (nI (ln + 1 + 1 + 1 + 1)), .int (nI th), .int (nI sp), .int (nI iw), .ref aT])), (aG, .inl (cI, 128, .inl (gN G))), (aB, .inl (cI, 128, .inl (gN B))), (aH, .inl (cI, 1024, .inl (gN Hi))), (aS, .inl (cI, 128, .inl (gN Sv))), (aI, .inl (cI, 60, .inl (gN In))), (aL, .inl (cC, 40, .inl (gN ((va_up (va_up (va_up (va_up Le (ln) (97 + (G (gEndAt a 0 z)))) (ln + 1) (97 + (G (gEndAt a 1 z)))) (ln + 1 + 1) (97 + (G (gEndAt a 2 z)))) (ln + 1 + 1 + 1) (97 + (G (gEndAt a 3 z)))))))), (aT, .inl (cI, 360, .inl To))] H := hP
          refine lv_iinc (v := nI (4)) (lv' := [(3, .int (nI 4)), (0, .ref h), (1, .int (nI a)), (2, .int (nI z))]) hx hb dX7_writesEndings_25 hl (k := 0) rfl (by show nI _ + Int32.ofInt 1 = _; exact nI_add _ 1) (by decide) rfl (fun ls hl => ?_)
          refine lv_goto (tgt := 2) hx hb dX7_writesEndings_28 (by decide) ?_
          refine lv_iload_n hx hb dX7_writesEndings_2 rfl (lv_at hl 0 rfl) ?_
          refine lv_iconst (v := nI 4) hx hb dX7_writesEndings_3 (by decide) ?_
          refine nv_icmp_ge (tgt := 31) hx hb dX7_writesEndings_4 (by decide) (by omega) (by omega) (fun c5 => ?_) (fun c5 => ?_)
          · exact nv_retMv hq hx hb hr hlocks hS hP (rfl) dX7_writesEndings_31
          · exact absurd c5 (by decide)

set_option maxHeartbeats 1000000 in
set_option maxRecDepth 100000 in
theorem c_X7_endings (l : Launch) {D : va_G} {cI cC : ClassId} {h aG aB aH aS aI aL aT : Nat} {G B Hi Sv In Le : Nat → Nat} {To : Nat → Int32} {ch hs ty wy ln th sp iw : Nat} {ea ra wd : Int32} {A : Nat → Prop} (hD : ∀ (G B Hi Sv In Le : Nat → Nat) (To : Nat → Int32) (fs : List Value), va_D A [(h, .inr (9, fs)), (aG, .inl (cI, 128, .inl (gN G))), (aB, .inl (cI, 128, .inl (gN B))), (aH, .inl (cI, 1024, .inl (gN Hi))), (aS, .inl (cI, 128, .inl (gN Sv))), (aI, .inl (cI, 60, .inl (gN In))), (aL, .inl (cC, 40, .inl (gN Le))), (aT, .inl (cI, 360, .inl To))]) {b : Nat} (hG : gWf b G) (a : Int32) : Met l yX7_endings wsX7_endings ({ frames := 2, cells := 0, slots := 0, locals := 45 }) (va_Pc [.ref h, .int a] (sPre D [(cI, .int), (cC, .char)] [] (fun H => va_P D vwCl [(h, .inr (9, [.ref aG, .ref aB, .ref aH, .int (nI ch), .ref aS, .int (nI hs), .ref aI, .int (nI ty), .int ea, .int ra, .int (nI wy), .int wd, .ref aL, .int (nI ln), .int (nI th), .int (nI sp), .int (nI iw), .ref aT])), (aG, .inl (cI, 128, .inl (gN G))), (aB, .inl (cI, 128, .inl (gN B))), (aH, .inl (cI, 1024, .inl (gN Hi))), (aS, .inl (cI, 128, .inl (gN Sv))), (aI, .inl (cI, 60, .inl (gN In))), (aL, .inl (cC, 40, .inl (gN Le))), (aT, .inl (cI, 360, .inl To))] H))) (mQ D ((if iR a 3 then nI 9 else 0)) [(h, .inr (9, [.ref aG, .ref aB, .ref aH, .int (nI ch), .ref aS, .int (nI hs), .ref aI, .int (nI ty), .int ea, .int ra, .int (nI wy), .int wd, .ref aL, .int (nI ((if iR a 3 then 9 else ln))), .int (nI ((if iR a 3 then 0 else 1))), .int (nI sp), .int (nI iw), .ref aT])), (aG, .inl (cI, 128, .inl (gN G))), (aB, .inl (cI, 128, .inl (gN B))), (aH, .inl (cI, 1024, .inl (gN Hi))), (aS, .inl (cI, 128, .inl (gN Sv))), (aI, .inl (cI, 60, .inl (gN In))), (aL, .inl (cC, 40, .inl (gN ((if iR a 3 then wrL (enD G (tN a)) Le 0 else Le))))), (aT, .inl (cI, 360, .inl To))] A) 0 0 A := by
  refine nv_met (cc := cX7_endings) (maxL := 2) (ret := (some .int)) (by decide) rfl (Nat.le_of_ble_eq_true rfl) ?_
  intro p0 e0 s m0 args below meth c0 Q hq hargs hnA hpre ls hl
  obtain ⟨hx, hb, hr, hts, hown, hlocks, hml⟩ := hnA
  obtain ⟨hP, hK⟩ := hpre
  have hown : s.vm.findClass RX7 = some m0.cls := hown
  have hP : va_P D vwCl [(h, .inr (9, [.ref aG, .ref aB, .ref aH, .int (nI ch), .ref aS, .int (nI hs), .ref aI, .int (nI ty), .int ea, .int ra, .int (nI wy), .int wd, .ref aL, .int (nI ln), .int (nI th), .int (nI sp), .int (nI iw), .ref aT])), (aG, .inl (cI, 128, .inl (gN G))), (aB, .inl (cI, 128, .inl (gN B))), (aH, .inl (cI, 1024, .inl (gN Hi))), (aS, .inl (cI, 128, .inl (gN Sv))), (aI, .inl (cI, 60, .inl (gN In))), (aL, .inl (cC, 40, .inl (gN Le))), (aT, .inl (cI, 360, .inl To))] s.heap := hP
  have hl : lv_has ls 2 [(0, .ref h), (1, .int a)] := hl
  have hS : va_S A s.heap s.heap [] := va_S.rf
  have in_X7 : ∀ w ∈ wsX70, w ∈ wsX7_endings := by decide +kernel
  have fl_175 := hts (.fieldLink RX7 175 "DoorDialectModel" "lined" "I") (by decide +kernel)
  obtain ⟨g_b, g_k, g_0, g_1, g_2, g_e, g_d, g_t, g_y, g_s, g_h⟩ := id hG
  refine lv_iload_n hx hb dX7_endings_0 rfl (lv_at hl 1 rfl) ?_
  refine nv_kS (va_runS (As := [.int a]) (rest := []) ⟨hx, hb, hml, hown, hts⟩ (c_X7_isThird l (a)) (va_cwS 1 hts gX7_endings_X7_isThird rfl rfl rfl (by decide +kernel) ⟨Nat.le_of_ble_eq_true rfl, Nat.le_of_ble_eq_true rfl⟩) (nv_pS hK trivial) rfl rfl hl.1 rfl (lv_room (Nat.le_of_ble_eq_true rfl)) dX7_endings_1 ⟨Nat.zero_le _, Nat.zero_le _⟩) ?_
  refine nv_ifb_ne (tgt := 13) hx hb dX7_endings_4 (by decide) (fun c1 => ?_) (fun c1 => ?_)
  · obtain ⟨ak, h_ak, rfl⟩ := iR_of c1 (by decide)
    have et_ak : tN (nI ak) = ak := tN_nI (by omega)
    refine lv_aload_n hx hb dX7_endings_13 rfl (lv_at hl 0 rfl) ?_
    refine lv_iconst (v := nI 0) hx hb dX7_endings_14 (by decide) ?_
    refine va_put (D := D) (ci := 9) (v := .int (nI 0)) (ty := .int) (C := RX7) (T := TX7) (N := 18) hx hb hts in_X7 tyX7 tyX7_ok nmX7 hown hK.1 hP (hD _ _ _ _ _ _ _ _) hS 0 rfl rfl 13 (by decide) fl_175 (fun _ h9 => h9) rfl (by decide +kernel) rfl rfl (Nat.le_of_ble_eq_true rfl) dX7_endings_15 (fun H locs hP _ hS => ?_)
    have hP : va_P D vwCl [(h, .inr (9, [.ref aG, .ref aB, .ref aH, .int (nI ch), .ref aS, .int (nI hs), .ref aI, .int (nI ty), .int ea, .int ra, .int (nI wy), .int wd, .ref aL, .int (nI 0), .int (nI th), .int (nI sp), .int (nI iw), .ref aT])), (aG, .inl (cI, 128, .inl (gN G))), (aB, .inl (cI, 128, .inl (gN B))), (aH, .inl (cI, 1024, .inl (gN Hi))), (aS, .inl (cI, 128, .inl (gN Sv))), (aI, .inl (cI, 60, .inl (gN In))), (aL, .inl (cC, 40, .inl (gN Le))), (aT, .inl (cI, 360, .inl To))] H := hP
    refine lv_aload_n hx hb dX7_endings_18 rfl (lv_at hl 0 rfl) ?_
    refine lv_iload_n hx hb dX7_endings_19 rfl (lv_at hl 1 rfl) ?_
    refine lv_iconst (v := nI 0) hx hb dX7_endings_20 (by decide) ?_
    refine nv_kMv (va_runV (As := [.int (nI ak), .int (nI 0)]) (rest := []) ⟨hx, hb, hml, hown, hts⟩ (c_X7_writesEndings l hD hG ak 0 (by omega) (by omega) (by omega)) (cwV 2 hts gX7_endings_X7_writesEndings rfl rfl rfl (by decide +kernel) ⟨Nat.le_of_ble_eq_true rfl, Nat.le_of_ble_eq_true rfl⟩) (nv_pV hK hP (va_recv hK.1 hP (ci := 9) (q0 := 0) rfl rfl)) rfl rfl hl.1 rfl (lv_room (Nat.le_of_ble_eq_true rfl)) dX7_endings_21 ⟨Nat.zero_le _, Nat.zero_le _⟩) hS (fun H locs hP hS => ?_)
    have hP : va_P D vwCl [(h, .inr (9, [.ref aG, .ref aB, .ref aH, .int (nI ch), .ref aS, .int (nI hs), .ref aI, .int (nI ty), .int ea, .int ra, .int (nI wy), .int wd, .ref aL, .int (nI 4), .int (nI th), .int (nI sp), .int (nI iw), .ref aT])), (aG, .inl (cI, 128, .inl (gN G))), (aB, .inl (cI, 128, .inl (gN B))), (aH, .inl (cI, 1024, .inl (gN Hi))), (aS, .inl (cI, 128, .inl (gN Sv))), (aI, .inl (cI, 60, .inl (gN In))), (aL, .inl (cC, 40, .inl (gN ((wrL (enH G ak 0) Le (0)))))), (aT, .inl (cI, 360, .inl To))] H := hP
    refine lv_aload_n hx hb dX7_endings_24 rfl (lv_at hl 0 rfl) ?_
    refine lv_bipush (v := nI 47) hx hb dX7_endings_25 (by decide) ?_
    refine nv_kMv (va_runV (As := [.int (nI 47)]) (rest := []) ⟨hx, hb, hml, hown, hts⟩ (c_X7_writes l hD 47 (by omega) (by omega)) (cwV 1 hts gX7_endings_X7_writes rfl rfl rfl (by decide +kernel) ⟨Nat.le_of_ble_eq_true rfl, Nat.le_of_ble_eq_true rfl⟩) (nv_pV hK hP (va_recv hK.1 hP (ci := 9) (q0 := 0) rfl rfl)) rfl rfl hl.1 rfl (lv_room (Nat.le_of_ble_eq_true rfl)) dX7_endings_27 ⟨Nat.zero_le _, Nat.zero_le _⟩) hS (fun H locs hP hS => ?_)
    have hP : va_P D vwCl [(h, .inr (9, [.ref aG, .ref aB, .ref aH, .int (nI ch), .ref aS, .int (nI hs), .ref aI, .int (nI ty), .int ea, .int ra, .int (nI wy), .int wd, .ref aL, .int (nI 5), .int (nI th), .int (nI sp), .int (nI iw), .ref aT])), (aG, .inl (cI, 128, .inl (gN G))), (aB, .inl (cI, 128, .inl (gN B))), (aH, .inl (cI, 1024, .inl (gN Hi))), (aS, .inl (cI, 128, .inl (gN Sv))), (aI, .inl (cI, 60, .inl (gN In))), (aL, .inl (cC, 40, .inl (gN ((va_up (wrL (enH G ak 0) Le (0)) (4) (47)))))), (aT, .inl (cI, 360, .inl To))] H := hP
    refine lv_aload_n hx hb dX7_endings_30 rfl (lv_at hl 0 rfl) ?_
    refine lv_iload_n hx hb dX7_endings_31 rfl (lv_at hl 1 rfl) ?_
    refine lv_iconst (v := nI 1) hx hb dX7_endings_32 (by decide) ?_
    refine nv_kMv (va_runV (As := [.int (nI ak), .int (nI 1)]) (rest := []) ⟨hx, hb, hml, hown, hts⟩ (c_X7_writesEndings l hD hG ak 1 (by omega) (by omega) (by omega)) (cwV 2 hts gX7_endings_X7_writesEndings rfl rfl rfl (by decide +kernel) ⟨Nat.le_of_ble_eq_true rfl, Nat.le_of_ble_eq_true rfl⟩) (nv_pV hK hP (va_recv hK.1 hP (ci := 9) (q0 := 0) rfl rfl)) rfl rfl hl.1 rfl (lv_room (Nat.le_of_ble_eq_true rfl)) dX7_endings_33 ⟨Nat.zero_le _, Nat.zero_le _⟩) hS (fun H locs hP hS => ?_)
    have hP : va_P D vwCl [(h, .inr (9, [.ref aG, .ref aB, .ref aH, .int (nI ch), .ref aS, .int (nI hs), .ref aI, .int (nI ty), .int ea, .int ra, .int (nI wy), .int wd, .ref aL, .int (nI 9), .int (nI th), .int (nI sp), .int (nI iw), .ref aT])), (aG, .inl (cI, 128, .inl (gN G))), (aB, .inl (cI, 128, .inl (gN B))), (aH, .inl (cI, 1024, .inl (gN Hi))), (aS, .inl (cI, 128, .inl (gN Sv))), (aI, .inl (cI, 60, .inl (gN In))), (aL, .inl (cC, 40, .inl (gN ((wrL (enH G ak 1) (va_up (wrL (enH G ak 0) Le (0)) (4) (47)) (5)))))), (aT, .inl (cI, 360, .inl To))] H := hP
    refine lv_aload_n hx hb dX7_endings_36 rfl (lv_at hl 0 rfl) ?_
    refine lv_aload_n hx hb dX7_endings_37 rfl (lv_at hl 0 rfl) ?_
    refine va_get (D := D) (ci := 9) (v := .int (nI 9)) (C := RX7) (T := TX7) (N := 18) hx hb hts in_X7 hown hK.1 hP 0 rfl rfl 13 (by decide) fl_175 (fun _ h9 => h9) rfl dX7_endings_38 ?_
    refine nv_kM (va_runV (As := [.int (nI 9)]) (rest := []) ⟨hx, hb, hml, hown, hts⟩ (c_X7_done l hD (nI (9))) (cwV 1 hts gX7_endings_X7_done rfl rfl rfl (by decide +kernel) ⟨Nat.le_of_ble_eq_true rfl, Nat.le_of_ble_eq_true rfl⟩) (nv_pV hK hP (va_recv hK.1 hP (ci := 9) (q0 := 0) rfl rfl)) rfl rfl hl.1 rfl (lv_room (Nat.le_of_ble_eq_true rfl)) dX7_endings_41 ⟨Nat.zero_le _, Nat.zero_le _⟩) hS (fun H locs hP hS => ?_)
    have hP : va_P D vwCl [(h, .inr (9, [.ref aG, .ref aB, .ref aH, .int (nI ch), .ref aS, .int (nI hs), .ref aI, .int (nI ty), .int ea, .int ra, .int (nI wy), .int wd, .ref aL, .int (nI 9), .int (nI 0), .int (nI sp), .int (nI iw), .ref aT])), (aG, .inl (cI, 128, .inl (gN G))), (aB, .inl (cI, 128, .inl (gN B))), (aH, .inl (cI, 1024, .inl (gN Hi))), (aS, .inl (cI, 128, .inl (gN Sv))), (aI, .inl (cI, 60, .inl (gN In))), (aL, .inl (cC, 40, .inl (gN ((wrL (enH G ak 1) (va_up (wrL (enH G ak 0) Le (0)) (4) (47)) (5)))))), (aT, .inl (cI, 360, .inl To))] H := hP
    exact nv_retM hq hx hb hr hlocks (nar_i _) (by rw [if_pos c1] <;> rfl) hS hP (by rw [if_pos c1, if_pos c1, if_pos c1, et_ak] <;> rfl) dX7_endings_44
  · refine lv_aload_n hx hb dX7_endings_7 rfl (lv_at hl 0 rfl) ?_
    refine lv_iconst (v := nI 1) hx hb dX7_endings_8 (by decide) ?_
    refine nv_kM (va_runV (As := [.int (nI 1)]) (rest := []) ⟨hx, hb, hml, hown, hts⟩ (c_X7_fails l hD 1) (cwV 1 hts gX7_endings_X7_fails rfl rfl rfl (by decide +kernel) ⟨Nat.le_of_ble_eq_true rfl, Nat.le_of_ble_eq_true rfl⟩) (nv_pV hK hP (va_recv hK.1 hP (ci := 9) (q0 := 0) rfl rfl)) rfl rfl hl.1 rfl (lv_room (Nat.le_of_ble_eq_true rfl)) dX7_endings_9 ⟨Nat.zero_le _, Nat.zero_le _⟩) hS (fun H locs hP hS => ?_)
    have hP : va_P D vwCl [(h, .inr (9, [.ref aG, .ref aB, .ref aH, .int (nI ch), .ref aS, .int (nI hs), .ref aI, .int (nI ty), .int ea, .int ra, .int (nI wy), .int wd, .ref aL, .int (nI ln), .int (nI 1), .int (nI sp), .int (nI iw), .ref aT])), (aG, .inl (cI, 128, .inl (gN G))), (aB, .inl (cI, 128, .inl (gN B))), (aH, .inl (cI, 1024, .inl (gN Hi))), (aS, .inl (cI, 128, .inl (gN Sv))), (aI, .inl (cI, 60, .inl (gN In))), (aL, .inl (cC, 40, .inl (gN Le))), (aT, .inl (cI, 360, .inl To))] H := hP
    exact nv_retM hq hx hb hr hlocks (nar_i _) (by rw [if_neg c1] <;> rfl) hS hP (by rw [if_neg c1, if_neg c1, if_neg c1]) dX7_endings_12

set_option maxHeartbeats 1000000 in
set_option maxRecDepth 100000 in
theorem c_X7_character (l : Launch) {D : va_G} {cI cC : ClassId} {h aG aB aH aS aI aL aT : Nat} {G B Hi Sv In Le : Nat → Nat} {To : Nat → Int32} {ch hs ty wy ln th sp iw : Nat} {ea ra wd : Int32} {A : Nat → Prop} (hD : ∀ (G B Hi Sv In Le : Nat → Nat) (To : Nat → Int32) (fs : List Value), va_D A [(h, .inr (9, fs)), (aG, .inl (cI, 128, .inl (gN G))), (aB, .inl (cI, 128, .inl (gN B))), (aH, .inl (cI, 1024, .inl (gN Hi))), (aS, .inl (cI, 128, .inl (gN Sv))), (aI, .inl (cI, 60, .inl (gN In))), (aL, .inl (cC, 40, .inl (gN Le))), (aT, .inl (cI, 360, .inl To))]) (x : Int32) (hln : ln < 2 ^ 31) (hl40 : ln ≤ 40) (hLe : ∀ k, k < ln → Le k < 65536) : Met l yX7_character wsX7_character ({ frames := 1, cells := 0, slots := 0, locals := 22 }) (va_Pc [.ref h, .int x] (sPre D [(cI, .int), (cC, .char)] [] (fun H => va_P D vwCl [(h, .inr (9, [.ref aG, .ref aB, .ref aH, .int (nI ch), .ref aS, .int (nI hs), .ref aI, .int (nI ty), .int ea, .int ra, .int (nI wy), .int wd, .ref aL, .int (nI ln), .int (nI th), .int (nI sp), .int (nI iw), .ref aT])), (aG, .inl (cI, 128, .inl (gN G))), (aB, .inl (cI, 128, .inl (gN B))), (aH, .inl (cI, 1024, .inl (gN Hi))), (aS, .inl (cI, 128, .inl (gN Sv))), (aI, .inl (cI, 60, .inl (gN In))), (aL, .inl (cC, 40, .inl (gN Le))), (aT, .inl (cI, 360, .inl To))] H))) (mQ D ((if iR x ln then nI (Le (tN x)) else 0)) [(h, .inr (9, [.ref aG, .ref aB, .ref aH, .int (nI ch), .ref aS, .int (nI hs), .ref aI, .int (nI ty), .int ea, .int ra, .int (nI wy), .int wd, .ref aL, .int (nI ln), .int (nI ((if iR x ln then 0 else 1))), .int (nI sp), .int (nI iw), .ref aT])), (aG, .inl (cI, 128, .inl (gN G))), (aB, .inl (cI, 128, .inl (gN B))), (aH, .inl (cI, 1024, .inl (gN Hi))), (aS, .inl (cI, 128, .inl (gN Sv))), (aI, .inl (cI, 60, .inl (gN In))), (aL, .inl (cC, 40, .inl (gN Le))), (aT, .inl (cI, 360, .inl To))] A) 0 0 A := by
  refine nv_met (cc := cX7_character) (maxL := 2) (ret := (some .char)) (by decide) rfl (Nat.le_of_ble_eq_true rfl) ?_
  intro p0 e0 s m0 args below meth c0 Q hq hargs hnA hpre ls hl
  obtain ⟨hx, hb, hr, hts, hown, hlocks, hml⟩ := hnA
  obtain ⟨hP, hK⟩ := hpre
  have hown : s.vm.findClass RX7 = some m0.cls := hown
  have hP : va_P D vwCl [(h, .inr (9, [.ref aG, .ref aB, .ref aH, .int (nI ch), .ref aS, .int (nI hs), .ref aI, .int (nI ty), .int ea, .int ra, .int (nI wy), .int wd, .ref aL, .int (nI ln), .int (nI th), .int (nI sp), .int (nI iw), .ref aT])), (aG, .inl (cI, 128, .inl (gN G))), (aB, .inl (cI, 128, .inl (gN B))), (aH, .inl (cI, 1024, .inl (gN Hi))), (aS, .inl (cI, 128, .inl (gN Sv))), (aI, .inl (cI, 60, .inl (gN In))), (aL, .inl (cC, 40, .inl (gN Le))), (aT, .inl (cI, 360, .inl To))] s.heap := hP
  have hl : lv_has ls 2 [(0, .ref h), (1, .int x)] := hl
  have hS : va_S A s.heap s.heap [] := va_S.rf
  have in_X7 : ∀ w ∈ wsX70, w ∈ wsX7_character := by decide +kernel
  have fl_32 := hts (.fieldLink RX7 32 "DoorDialectModel" "letters" "[C") (by decide +kernel)
  have fl_42 := hts (.fieldLink RX7 42 "DoorDialectModel" "thrown" "I") (by decide +kernel)
  have fl_175 := hts (.fieldLink RX7 175 "DoorDialectModel" "lined" "I") (by decide +kernel)
  refine lv_aload_n hx hb dX7_character_0 rfl (lv_at hl 0 rfl) ?_
  refine lv_iload_n hx hb dX7_character_1 rfl (lv_at hl 1 rfl) ?_
  refine lv_iconst (v := nI 0) hx hb dX7_character_2 (by decide) ?_
  refine lv_aload_n hx hb dX7_character_3 rfl (lv_at hl 0 rfl) ?_
  refine va_get (D := D) (ci := 9) (v := .int (nI ln)) (C := RX7) (T := TX7) (N := 18) hx hb hts in_X7 hown hK.1 hP 0 rfl rfl 13 (by decide) fl_175 (fun _ h9 => h9) rfl dX7_character_4 ?_
  refine lv_iconst (v := nI 1) hx hb dX7_character_7 (by decide) ?_
  refine lv_isub hx hb dX7_character_8 ?_
  refine nv_kS (va_runS (As := [.int x, .int (nI 0), .int ((nI (ln)) - (nI (1)))]) (rest := [.ref h]) ⟨hx, hb, hml, hown, hts⟩ (c_X7_in l (x) (nI (0)) ((nI (ln)) - (nI (1)))) (va_cwS 3 hts gX7_character_X7_in rfl rfl rfl (by decide +kernel) ⟨Nat.le_of_ble_eq_true rfl, Nat.le_of_ble_eq_true rfl⟩) (nv_pS hK trivial) rfl rfl hl.1 rfl (lv_room (Nat.le_of_ble_eq_true rfl)) dX7_character_9 ⟨Nat.zero_le _, Nat.zero_le _⟩) ?_
  refine nv_ifb_eq (tgt := 19) hx hb dX7_character_12 (by decide) (fun c1 => ?_) (fun c1 => ?_)
  · refine lv_iconst (v := nI 1) hx hb dX7_character_19 (by decide) ?_
    refine va_put (D := D) (ci := 9) (v := .int (nI 1)) (ty := .int) (C := RX7) (T := TX7) (N := 18) hx hb hts in_X7 tyX7 tyX7_ok nmX7 hown hK.1 hP (hD _ _ _ _ _ _ _ _) hS 0 rfl rfl 14 (by decide) fl_42 (fun _ h9 => h9) rfl (by decide +kernel) rfl rfl (Nat.le_of_ble_eq_true rfl) dX7_character_20 (fun H locs hP _ hS => ?_)
    have hP : va_P D vwCl [(h, .inr (9, [.ref aG, .ref aB, .ref aH, .int (nI ch), .ref aS, .int (nI hs), .ref aI, .int (nI ty), .int ea, .int ra, .int (nI wy), .int wd, .ref aL, .int (nI ln), .int (nI 1), .int (nI sp), .int (nI iw), .ref aT])), (aG, .inl (cI, 128, .inl (gN G))), (aB, .inl (cI, 128, .inl (gN B))), (aH, .inl (cI, 1024, .inl (gN Hi))), (aS, .inl (cI, 128, .inl (gN Sv))), (aI, .inl (cI, 60, .inl (gN In))), (aL, .inl (cC, 40, .inl (gN Le))), (aT, .inl (cI, 360, .inl To))] H := hP
    refine lv_aload_n hx hb dX7_character_23 rfl (lv_at hl 0 rfl) ?_
    refine va_get (D := D) (ci := 9) (v := .int (nI 1)) (C := RX7) (T := TX7) (N := 18) hx hb hts in_X7 hown hK.1 hP 0 rfl rfl 14 (by decide) fl_42 (fun _ h9 => h9) rfl dX7_character_24 ?_
    refine nv_if_ne (tgt := 39) hx hb dX7_character_27 (by decide) (by omega) (fun c2 => ?_) (fun c2 => ?_)
    · refine lv_iconst (v := nI 0) hx hb dX7_character_39 (by decide) ?_
      exact nv_retM hq hx hb hr hlocks (nar_c (by first | exact hLe _ (by omega) | omega)) (by rw [if_neg (fun q => c1 ((iR_in hln).mpr q))] <;> rfl) hS hP (by rw [if_neg (fun q => c1 ((iR_in hln).mpr q))]) dX7_character_40
    · exact absurd c2 (by decide)
  · have c1 := (iR_in hln).mp c1
    obtain ⟨xk, h_xk, rfl⟩ := iR_of c1 hln
    have et_xk : tN (nI xk) = xk := tN_nI (by omega)
    refine lv_iconst (v := nI 0) hx hb dX7_character_15 (by decide) ?_
    refine lv_goto (tgt := 20) hx hb dX7_character_16 (by decide) ?_
    refine va_put (D := D) (ci := 9) (v := .int (nI 0)) (ty := .int) (C := RX7) (T := TX7) (N := 18) hx hb hts in_X7 tyX7 tyX7_ok nmX7 hown hK.1 hP (hD _ _ _ _ _ _ _ _) hS 0 rfl rfl 14 (by decide) fl_42 (fun _ h9 => h9) rfl (by decide +kernel) rfl rfl (Nat.le_of_ble_eq_true rfl) dX7_character_20 (fun H locs hP _ hS => ?_)
    have hP : va_P D vwCl [(h, .inr (9, [.ref aG, .ref aB, .ref aH, .int (nI ch), .ref aS, .int (nI hs), .ref aI, .int (nI ty), .int ea, .int ra, .int (nI wy), .int wd, .ref aL, .int (nI ln), .int (nI 0), .int (nI sp), .int (nI iw), .ref aT])), (aG, .inl (cI, 128, .inl (gN G))), (aB, .inl (cI, 128, .inl (gN B))), (aH, .inl (cI, 1024, .inl (gN Hi))), (aS, .inl (cI, 128, .inl (gN Sv))), (aI, .inl (cI, 60, .inl (gN In))), (aL, .inl (cC, 40, .inl (gN Le))), (aT, .inl (cI, 360, .inl To))] H := hP
    refine lv_aload_n hx hb dX7_character_23 rfl (lv_at hl 0 rfl) ?_
    refine va_get (D := D) (ci := 9) (v := .int (nI 0)) (C := RX7) (T := TX7) (N := 18) hx hb hts in_X7 hown hK.1 hP 0 rfl rfl 14 (by decide) fl_42 (fun _ h9 => h9) rfl dX7_character_24 ?_
    refine nv_if_ne (tgt := 39) hx hb dX7_character_27 (by decide) (by omega) (fun c3 => ?_) (fun c3 => ?_)
    · exact absurd c3 (by decide)
    · refine lv_aload_n hx hb dX7_character_30 rfl (lv_at hl 0 rfl) ?_
      refine va_get (D := D) (ci := 9) (v := .ref aL) (C := RX7) (T := TX7) (N := 18) hx hb hts in_X7 hown hK.1 hP 0 rfl rfl 12 (by decide) fl_32 (fun _ h9 => h9) rfl dX7_character_31 ?_
      refine lv_iload_n hx hb dX7_character_34 rfl (lv_at hl 1 rfl) ?_
      refine nv_cald (i := xk) hx hb hK.1 hP 6 1 rfl rfl (by first | omega | (simp only [gEndAt]; omega)) (by decide) dX7_character_35 ?_
      refine lv_goto (tgt := 40) hx hb dX7_character_36 (by decide) ?_
      exact nv_retM hq hx hb hr hlocks (nar_c (by first | exact hLe _ (by omega) | omega)) (by rw [if_pos c1, et_xk]) hS hP (by rw [if_pos c1]) dX7_character_40

set_option maxHeartbeats 1000000 in
set_option maxRecDepth 100000 in
theorem c_X7_byteOf (l : Launch) {D : va_G} {cI cC : ClassId} (p : Int32) (k : Nat) (hk : k < 4) : Met l yX7_byteOf wsX7_byteOf ({ frames := 0, cells := 0, slots := 0, locals := 0 }) (va_Pc [.int p, .int (nI k)] (sPre D [(cI, .int), (cC, .char)] [] (fun _ => True))) (sQ (nI (bO p k))) 0 0 (fun _ => False) := by
  refine nv_met (cc := cX7_byteOf) (maxL := 2) (ret := (some .int)) (by decide) rfl (Nat.le_of_ble_eq_true rfl) ?_
  intro p0 e0 s m0 args below meth c0 Q hq hargs hnA hpre ls hl
  obtain ⟨hx, hb, hr, hts, hown, hlocks, hml⟩ := hnA
  obtain ⟨hP, hK⟩ := hpre
  have hown : s.vm.findClass RX7 = some m0.cls := hown
  have hl : lv_has ls 2 [(0, .int p), (1, .int (nI k))] := hl
  refine lv_iload_n hx hb dX7_byteOf_0 rfl (lv_at hl 0 rfl) ?_
  refine lv_bipush (v := nI 24) hx hb dX7_byteOf_1 (by decide) ?_
  refine lv_bipush (v := nI 8) hx hb dX7_byteOf_3 (by decide) ?_
  refine lv_iload_n hx hb dX7_byteOf_5 rfl (lv_at hl 1 rfl) ?_
  refine nv_imul hx hb dX7_byteOf_6 ?_
  refine lv_isub hx hb dX7_byteOf_7 ?_
  refine lv_iushr (v := (p.toUInt32 >>> ((nI 24 - nI (8 * k)).toUInt32 &&& Int32.toUInt32 31)).toInt32) hx hb dX7_byteOf_8 (rfl) ?_
  refine lv_sipush (v := nI 255) hx hb dX7_byteOf_9 (by decide) ?_
  refine lv_iand hx hb dX7_byteOf_12 ?_
  refine nv_to (bO p k) (bO_eq p k hk) ?_
  exact nv_retS hq hx hb hr hlocks (nar_i _) (rfl) dX7_byteOf_13

set_option maxHeartbeats 1000000 in
set_option maxRecDepth 100000 in
theorem c_X7_append (l : Launch) {D : va_G} {cI cC : ClassId} {h aG aB aH aS aI aL aT : Nat} {G B Hi Sv In Le : Nat → Nat} {To : Nat → Int32} {ch hs ty wy ln th sp iw : Nat} {ea ra wd : Int32} {A : Nat → Prop} (hD : ∀ (G B Hi Sv In Le : Nat → Nat) (To : Nat → Int32) (fs : List Value), va_D A [(h, .inr (9, fs)), (aG, .inl (cI, 128, .inl (gN G))), (aB, .inl (cI, 128, .inl (gN B))), (aH, .inl (cI, 1024, .inl (gN Hi))), (aS, .inl (cI, 128, .inl (gN Sv))), (aI, .inl (cI, 60, .inl (gN In))), (aL, .inl (cC, 40, .inl (gN Le))), (aT, .inl (cI, 360, .inl To))]) (p : Int32) (hty : ty ≤ 60) : Met l yX7_append wsX7_append ({ frames := 1, cells := 0, slots := 0, locals := 22 }) (va_Pc [.ref h, .int p] (sPre D [(cI, .int), (cC, .char)] [] (fun H => va_P D vwCl [(h, .inr (9, [.ref aG, .ref aB, .ref aH, .int (nI ch), .ref aS, .int (nI hs), .ref aI, .int (nI ty), .int ea, .int ra, .int (nI wy), .int wd, .ref aL, .int (nI ln), .int (nI th), .int (nI sp), .int (nI iw), .ref aT])), (aG, .inl (cI, 128, .inl (gN G))), (aB, .inl (cI, 128, .inl (gN B))), (aH, .inl (cI, 1024, .inl (gN Hi))), (aS, .inl (cI, 128, .inl (gN Sv))), (aI, .inl (cI, 60, .inl (gN In))), (aL, .inl (cC, 40, .inl (gN Le))), (aT, .inl (cI, 360, .inl To))] H))) (mQ D ((if 4 < sm (bC p) 4 then 0 else (if 60 < ty + sm (bC p) 4 then 0 else nI (apI In ty p 4).2))) [(h, .inr (9, [.ref aG, .ref aB, .ref aH, .int (nI ch), .ref aS, .int (nI hs), .ref aI, .int (nI ((if 4 < sm (bC p) 4 then ty else (if 60 < ty + sm (bC p) 4 then ty else (apI In ty p 4).2)))), .int ea, .int ra, .int (nI wy), .int wd, .ref aL, .int (nI ln), .int (nI ((if 4 < sm (bC p) 4 then 1 else (if 60 < ty + sm (bC p) 4 then 2 else 0)))), .int (nI sp), .int (nI iw), .ref aT])), (aG, .inl (cI, 128, .inl (gN G))), (aB, .inl (cI, 128, .inl (gN B))), (aH, .inl (cI, 1024, .inl (gN Hi))), (aS, .inl (cI, 128, .inl (gN Sv))), (aI, .inl (cI, 60, .inl (gN ((if 4 < sm (bC p) 4 then In else (if 60 < ty + sm (bC p) 4 then In else (apI In ty p 4).1)))))), (aL, .inl (cC, 40, .inl (gN Le))), (aT, .inl (cI, 360, .inl To))] A) 0 0 A := by
  refine nv_met (cc := cX7_append) (maxL := 5) (ret := (some .int)) (by decide) rfl (Nat.le_of_ble_eq_true rfl) ?_
  intro p0 e0 s m0 args below meth c0 Q hq hargs hnA hpre ls hl
  obtain ⟨hx, hb, hr, hts, hown, hlocks, hml⟩ := hnA
  obtain ⟨hP, hK⟩ := hpre
  have hown : s.vm.findClass RX7 = some m0.cls := hown
  have hP : va_P D vwCl [(h, .inr (9, [.ref aG, .ref aB, .ref aH, .int (nI ch), .ref aS, .int (nI hs), .ref aI, .int (nI ty), .int ea, .int ra, .int (nI wy), .int wd, .ref aL, .int (nI ln), .int (nI th), .int (nI sp), .int (nI iw), .ref aT])), (aG, .inl (cI, 128, .inl (gN G))), (aB, .inl (cI, 128, .inl (gN B))), (aH, .inl (cI, 1024, .inl (gN Hi))), (aS, .inl (cI, 128, .inl (gN Sv))), (aI, .inl (cI, 60, .inl (gN In))), (aL, .inl (cC, 40, .inl (gN Le))), (aT, .inl (cI, 360, .inl To))] s.heap := hP
  have hl : lv_has ls 5 [(0, .ref h), (1, .int p)] := hl
  have hS : va_S A s.heap s.heap [] := va_S.rf
  have in_X7 : ∀ w ∈ wsX70, w ∈ wsX7_append := by decide +kernel
  have fl_22 := hts (.fieldLink RX7 22 "DoorDialectModel" "input" "[I") (by decide +kernel)
  have fl_192 := hts (.fieldLink RX7 192 "DoorDialectModel" "typed" "I") (by decide +kernel)
  refine lv_iconst (v := nI 0) hx hb dX7_append_0 (by decide) ?_
  refine lv_istore_n (lv' := [(2, .int (nI 0)), (0, .ref h), (1, .int p)]) hx hb dX7_append_1 rfl hl (by decide) rfl (fun ls hl => ?_)
  refine lv_iconst (v := nI 0) hx hb dX7_append_2 (by decide) ?_
  refine lv_istore_n (lv' := [(3, .int (nI 0)), (2, .int (nI 0)), (0, .ref h), (1, .int p)]) hx hb dX7_append_3 rfl hl (by decide) rfl (fun ls hl => ?_)
  have hloop1 : ∀ (nn : Nat) (k : Nat), (k ≤ 4) → 4 - k < nn → ∀ (H : Heap) (locs : List Loc), va_P D vwCl [(h, .inr (9, [.ref aG, .ref aB, .ref aH, .int (nI ch), .ref aS, .int (nI hs), .ref aI, .int (nI ty), .int ea, .int ra, .int (nI wy), .int wd, .ref aL, .int (nI ln), .int (nI th), .int (nI sp), .int (nI iw), .ref aT])), (aG, .inl (cI, 128, .inl (gN G))), (aB, .inl (cI, 128, .inl (gN B))), (aH, .inl (cI, 1024, .inl (gN Hi))), (aS, .inl (cI, 128, .inl (gN Sv))), (aI, .inl (cI, 60, .inl (gN In))), (aL, .inl (cC, 40, .inl (gN Le))), (aT, .inl (cI, 360, .inl To))] H → va_S A s.heap H locs → ∀ (ls : Array Slot), lv_has ls 5 [(3, .int (nI k)), (2, .int (nI (sm (bC p) k))), (0, .ref h), (1, .int p)] → W p0 l e0 ({ frames := 1, cells := 0, slots := 0, locals := 22 }) s m0 args below meth c0 H locs 0 0 Q (F0 m0 4 ls []) := by
    intro nn4
    induction nn4 with
    | zero => intro k hk hn0 _ _ _ _ _ _; exact absurd hn0 (Nat.not_lt_zero _)
    | succ nn4 ih4 =>
      intro k hk hn4 H locs hP hS ls hl
      have hP : va_P D vwCl [(h, .inr (9, [.ref aG, .ref aB, .ref aH, .int (nI ch), .ref aS, .int (nI hs), .ref aI, .int (nI ty), .int ea, .int ra, .int (nI wy), .int wd, .ref aL, .int (nI ln), .int (nI th), .int (nI sp), .int (nI iw), .ref aT])), (aG, .inl (cI, 128, .inl (gN G))), (aB, .inl (cI, 128, .inl (gN B))), (aH, .inl (cI, 1024, .inl (gN Hi))), (aS, .inl (cI, 128, .inl (gN Sv))), (aI, .inl (cI, 60, .inl (gN In))), (aL, .inl (cC, 40, .inl (gN Le))), (aT, .inl (cI, 360, .inl To))] H := hP
      have hs4 := sm_le (f := bC p) (b := 100) (n := k) (fun j _ => bC_le p j)
      refine lv_iload_n hx hb dX7_append_4 rfl (lv_at hl 0 rfl) ?_
      refine lv_iconst (v := nI 4) hx hb dX7_append_5 (by decide) ?_
      refine nv_icmp_ge (tgt := 52) hx hb dX7_append_6 (by decide) (by first | omega | (have := bO_lt p k; omega)) (by first | omega | (have := bO_lt p k; omega)) (fun c2 => ?_) (fun c2 => ?_)
      · refine lv_iload_n hx hb dX7_append_52 rfl (lv_at hl 1 rfl) ?_
        refine lv_iconst (v := nI 4) hx hb dX7_append_53 (by decide) ?_
        refine nv_icmp_le (tgt := 63) hx hb dX7_append_54 (by decide) (by first | omega | (have := bO_lt p k; omega)) (by first | omega | (have := bO_lt p k; omega)) (fun c3 => ?_) (fun c3 => ?_)
        · have h4 : ¬ 4 < sm (bC p) 4 := by have e : k = 4 := (by omega); rw [e] at c3; omega
          refine lv_aload_n hx hb dX7_append_63 rfl (lv_at hl 2 rfl) ?_
          refine va_get (D := D) (ci := 9) (v := .int (nI ty)) (C := RX7) (T := TX7) (N := 18) hx hb hts in_X7 hown hK.1 hP 0 rfl rfl 7 (by decide) fl_192 (fun _ h9 => h9) rfl dX7_append_64 ?_
          refine lv_iload_n hx hb dX7_append_67 rfl (lv_at hl 1 rfl) ?_
          refine nv_iadd hx hb dX7_append_68 ?_
          refine lv_bipush (v := nI 60) hx hb dX7_append_69 (by decide) ?_
          refine nv_icmp_le (tgt := 80) hx hb dX7_append_71 (by decide) (by first | omega | (have := bO_lt p k; omega)) (by first | omega | (have := bO_lt p k; omega)) (fun c4 => ?_) (fun c4 => ?_)
          · have h60 : ¬ 60 < ty + sm (bC p) 4 := by have e : k = 4 := (by omega); rw [e] at c4; omega
            refine lv_iconst (v := nI 0) hx hb dX7_append_80 (by decide) ?_
            refine lv_istore_n (lv' := [(3, .int (nI 0)), (2, .int (nI (sm (bC p) k))), (0, .ref h), (1, .int p)]) hx hb dX7_append_81 rfl hl (by decide) rfl (fun ls hl => ?_)
            have hloop5 : ∀ (nn : Nat) (k : Nat), (k ≤ 4) → 4 - k < nn → ∀ (H : Heap) (locs : List Loc), va_P D vwCl [(h, .inr (9, [.ref aG, .ref aB, .ref aH, .int (nI ch), .ref aS, .int (nI hs), .ref aI, .int (nI ((apI In ty p k).2)), .int ea, .int ra, .int (nI wy), .int wd, .ref aL, .int (nI ln), .int (nI th), .int (nI sp), .int (nI iw), .ref aT])), (aG, .inl (cI, 128, .inl (gN G))), (aB, .inl (cI, 128, .inl (gN B))), (aH, .inl (cI, 1024, .inl (gN Hi))), (aS, .inl (cI, 128, .inl (gN Sv))), (aI, .inl (cI, 60, .inl (gN ((apI In ty p k).1)))), (aL, .inl (cC, 40, .inl (gN Le))), (aT, .inl (cI, 360, .inl To))] H → va_S A s.heap H locs → ∀ (ls : Array Slot), lv_has ls 5 [(3, .int (nI k)), (0, .ref h), (1, .int p)] → W p0 l e0 ({ frames := 1, cells := 0, slots := 0, locals := 22 }) s m0 args below meth c0 H locs 0 0 Q (F0 m0 82 ls []) := by
              intro nn82
              induction nn82 with
              | zero => intro k hk hn0 _ _ _ _ _ _; exact absurd hn0 (Nat.not_lt_zero _)
              | succ nn82 ih82 =>
                intro k hk hn82 H locs hP hS ls hl
                have hP : va_P D vwCl [(h, .inr (9, [.ref aG, .ref aB, .ref aH, .int (nI ch), .ref aS, .int (nI hs), .ref aI, .int (nI ((apI In ty p k).2)), .int ea, .int ra, .int (nI wy), .int wd, .ref aL, .int (nI ln), .int (nI th), .int (nI sp), .int (nI iw), .ref aT])), (aG, .inl (cI, 128, .inl (gN G))), (aB, .inl (cI, 128, .inl (gN B))), (aH, .inl (cI, 1024, .inl (gN Hi))), (aS, .inl (cI, 128, .inl (gN Sv))), (aI, .inl (cI, 60, .inl (gN ((apI In ty p k).1)))), (aL, .inl (cC, 40, .inl (gN Le))), (aT, .inl (cI, 360, .inl To))] H := hP
                have hi60 := apI_le (F := In) (n := ty) (p := p) (by omega) (by omega) hk
                refine lv_iload_n hx hb dX7_append_82 rfl (lv_at hl 0 rfl) ?_
                refine lv_iconst (v := nI 4) hx hb dX7_append_83 (by decide) ?_
                refine nv_icmp_ge (tgt := 125) hx hb dX7_append_84 (by decide) (by first | omega | (have := bO_lt p k; omega)) (by first | omega | (have := bO_lt p k; omega)) (fun c6 => ?_) (fun c6 => ?_)
                · refine lv_aload_n hx hb dX7_append_125 rfl (lv_at hl 1 rfl) ?_
                  refine lv_aload_n hx hb dX7_append_126 rfl (lv_at hl 1 rfl) ?_
                  refine va_get (D := D) (ci := 9) (v := .int (nI ((apI In ty p k).2))) (C := RX7) (T := TX7) (N := 18) hx hb hts in_X7 hown hK.1 hP 0 rfl rfl 7 (by decide) fl_192 (fun _ h9 => h9) rfl dX7_append_127 ?_
                  refine nv_kM (va_runV (As := [.int (nI ((apI In ty p k).2))]) (rest := []) ⟨hx, hb, hml, hown, hts⟩ (c_X7_done l hD (nI ((apI In ty p k).2))) (cwV 1 hts gX7_append_X7_done rfl rfl rfl (by decide +kernel) ⟨Nat.le_of_ble_eq_true rfl, Nat.le_of_ble_eq_true rfl⟩) (nv_pV hK hP (va_recv hK.1 hP (ci := 9) (q0 := 0) rfl rfl)) rfl rfl hl.1 rfl (lv_room (Nat.le_of_ble_eq_true rfl)) dX7_append_130 ⟨Nat.zero_le _, Nat.zero_le _⟩) hS (fun H locs hP hS => ?_)
                  have hP : va_P D vwCl [(h, .inr (9, [.ref aG, .ref aB, .ref aH, .int (nI ch), .ref aS, .int (nI hs), .ref aI, .int (nI ((apI In ty p k).2)), .int ea, .int ra, .int (nI wy), .int wd, .ref aL, .int (nI ln), .int (nI 0), .int (nI sp), .int (nI iw), .ref aT])), (aG, .inl (cI, 128, .inl (gN G))), (aB, .inl (cI, 128, .inl (gN B))), (aH, .inl (cI, 1024, .inl (gN Hi))), (aS, .inl (cI, 128, .inl (gN Sv))), (aI, .inl (cI, 60, .inl (gN ((apI In ty p k).1)))), (aL, .inl (cC, 40, .inl (gN Le))), (aT, .inl (cI, 360, .inl To))] H := hP
                  exact nv_retM hq hx hb hr hlocks (nar_i _) (by rw [if_neg (by omega), if_neg (by omega), show k = 4 by omega]) hS hP (by rw [if_neg (by omega), if_neg (by omega), if_neg (by omega), if_neg (by omega), if_neg (by omega), if_neg (by omega), show k = 4 by omega]) dX7_append_133
                · refine lv_iload_n hx hb dX7_append_87 rfl (lv_at hl 2 rfl) ?_
                  refine lv_iload_n hx hb dX7_append_88 rfl (lv_at hl 0 rfl) ?_
                  refine nv_kS (va_runS (As := [.int p, .int (nI k)]) (rest := []) ⟨hx, hb, hml, hown, hts⟩ (c_X7_byteOf l (p) k (by omega)) (va_cwS 2 hts gX7_append_X7_byteOf rfl rfl rfl (by decide +kernel) ⟨Nat.le_of_ble_eq_true rfl, Nat.le_of_ble_eq_true rfl⟩) (nv_pS hK trivial) rfl rfl hl.1 rfl (lv_room (Nat.le_of_ble_eq_true rfl)) dX7_append_89 ⟨Nat.zero_le _, Nat.zero_le _⟩) ?_
                  refine nv_if_eq (tgt := 119) hx hb dX7_append_92 (by decide) (by first | omega | (have := bO_lt p k; omega)) (fun c7 => ?_) (fun c7 => ?_)
                  · refine lv_iinc (v := nI (k + 1)) (lv' := [(3, .int (nI (k + 1))), (0, .ref h), (1, .int p)]) hx hb dX7_append_119 hl (k := 0) rfl (by show nI _ + Int32.ofInt 1 = _; exact nI_add _ 1) (by decide) rfl (fun ls hl => ?_)
                    refine lv_goto (tgt := 82) hx hb dX7_append_122 (by decide) ?_
                    exact ih82  (k + 1) ((by omega)) (by omega) _ _ (by rw [show apI In ty p (k + 1) = apI In ty p k from if_pos c7]; exact hP) hS ls (lv_sub hl [0, 1, 2] rfl)
                  · refine lv_aload_n hx hb dX7_append_95 rfl (lv_at hl 1 rfl) ?_
                    refine va_get (D := D) (ci := 9) (v := .ref aI) (C := RX7) (T := TX7) (N := 18) hx hb hts in_X7 hown hK.1 hP 0 rfl rfl 6 (by decide) fl_22 (fun _ h9 => h9) rfl dX7_append_96 ?_
                    refine lv_aload_n hx hb dX7_append_99 rfl (lv_at hl 1 rfl) ?_
                    refine va_get (D := D) (ci := 9) (v := .int (nI ((apI In ty p k).2))) (C := RX7) (T := TX7) (N := 18) hx hb hts in_X7 hown hK.1 hP 0 rfl rfl 7 (by decide) fl_192 (fun _ h9 => h9) rfl dX7_append_100 ?_
                    refine lv_iload_n hx hb dX7_append_103 rfl (lv_at hl 2 rfl) ?_
                    refine lv_iload_n hx hb dX7_append_104 rfl (lv_at hl 0 rfl) ?_
                    refine nv_kS (va_runS (As := [.int p, .int (nI k)]) (rest := [.int (nI ((apI In ty p k).2)), .ref aI]) ⟨hx, hb, hml, hown, hts⟩ (c_X7_byteOf l (p) k (by omega)) (va_cwS 2 hts gX7_append_X7_byteOf rfl rfl rfl (by decide +kernel) ⟨Nat.le_of_ble_eq_true rfl, Nat.le_of_ble_eq_true rfl⟩) (nv_pS hK trivial) rfl rfl hl.1 rfl (lv_room (Nat.le_of_ble_eq_true rfl)) dX7_append_105 ⟨Nat.zero_le _, Nat.zero_le _⟩) ?_
                    refine nv_gast (i := (apI In ty p k).2) (v := bO (p) k) hx hb hK.1 hP (hD _ _ _ _ _ _ _ _) hS 5 0 rfl rfl (by exact apI_lt (by omega) (by omega) (by omega) (by assumption)) (by decide) dX7_append_108 (fun H locs hP hS => ?_)
                    have hP : va_P D vwCl [(h, .inr (9, [.ref aG, .ref aB, .ref aH, .int (nI ch), .ref aS, .int (nI hs), .ref aI, .int (nI ((apI In ty p k).2)), .int ea, .int ra, .int (nI wy), .int wd, .ref aL, .int (nI ln), .int (nI th), .int (nI sp), .int (nI iw), .ref aT])), (aG, .inl (cI, 128, .inl (gN G))), (aB, .inl (cI, 128, .inl (gN B))), (aH, .inl (cI, 1024, .inl (gN Hi))), (aS, .inl (cI, 128, .inl (gN Sv))), (aI, .inl (cI, 60, .inl (gN ((va_up (apI In ty p k).1 ((apI In ty p k).2) (bO (p) k)))))), (aL, .inl (cC, 40, .inl (gN Le))), (aT, .inl (cI, 360, .inl To))] H := hP
                    refine lv_aload_n hx hb dX7_append_109 rfl (lv_at hl 1 rfl) ?_
                    refine lv_dup hx hb dX7_append_110 rfl ?_
                    refine va_get (D := D) (ci := 9) (v := .int (nI ((apI In ty p k).2))) (C := RX7) (T := TX7) (N := 18) hx hb hts in_X7 hown hK.1 hP 0 rfl rfl 7 (by decide) fl_192 (fun _ h9 => h9) rfl dX7_append_111 ?_
                    refine lv_iconst (v := nI 1) hx hb dX7_append_114 (by decide) ?_
                    refine nv_iadd hx hb dX7_append_115 ?_
                    refine va_put (D := D) (ci := 9) (v := .int (nI ((apI In ty p k).2 + 1))) (ty := .int) (C := RX7) (T := TX7) (N := 18) hx hb hts in_X7 tyX7 tyX7_ok nmX7 hown hK.1 hP (hD _ _ _ _ _ _ _ _) hS 0 rfl rfl 7 (by decide) fl_192 (fun _ h9 => h9) rfl (by decide +kernel) rfl rfl (Nat.le_of_ble_eq_true rfl) dX7_append_116 (fun H locs hP _ hS => ?_)
                    have hP : va_P D vwCl [(h, .inr (9, [.ref aG, .ref aB, .ref aH, .int (nI ch), .ref aS, .int (nI hs), .ref aI, .int (nI ((apI In ty p k).2 + 1)), .int ea, .int ra, .int (nI wy), .int wd, .ref aL, .int (nI ln), .int (nI th), .int (nI sp), .int (nI iw), .ref aT])), (aG, .inl (cI, 128, .inl (gN G))), (aB, .inl (cI, 128, .inl (gN B))), (aH, .inl (cI, 1024, .inl (gN Hi))), (aS, .inl (cI, 128, .inl (gN Sv))), (aI, .inl (cI, 60, .inl (gN ((va_up (apI In ty p k).1 ((apI In ty p k).2) (bO (p) k)))))), (aL, .inl (cC, 40, .inl (gN Le))), (aT, .inl (cI, 360, .inl To))] H := hP
                    refine lv_iinc (v := nI (k + 1)) (lv' := [(3, .int (nI (k + 1))), (0, .ref h), (1, .int p)]) hx hb dX7_append_119 hl (k := 0) rfl (by show nI _ + Int32.ofInt 1 = _; exact nI_add _ 1) (by decide) rfl (fun ls hl => ?_)
                    refine lv_goto (tgt := 82) hx hb dX7_append_122 (by decide) ?_
                    exact ih82  (k + 1) ((by omega)) (by omega) _ _ (by rw [show apI In ty p (k + 1) = (va_up (apI In ty p k).1 (apI In ty p k).2 (bO p k), (apI In ty p k).2 + 1) from if_neg c7]; exact hP) hS ls (lv_sub hl [0, 1, 2] rfl)
            exact hloop5 _ 0 ((Nat.zero_le _)) (Nat.lt_succ_self _) _ _ hP hS ls (lv_sub hl [0, 2, 3] rfl)
          · have h60 : 60 < ty + sm (bC p) 4 := by have e : k = 4 := (by omega); rw [e] at c4; omega
            refine lv_aload_n hx hb dX7_append_74 rfl (lv_at hl 2 rfl) ?_
            refine lv_iconst (v := nI 2) hx hb dX7_append_75 (by decide) ?_
            refine nv_kM (va_runV (As := [.int (nI 2)]) (rest := []) ⟨hx, hb, hml, hown, hts⟩ (c_X7_fails l hD 2) (cwV 1 hts gX7_append_X7_fails rfl rfl rfl (by decide +kernel) ⟨Nat.le_of_ble_eq_true rfl, Nat.le_of_ble_eq_true rfl⟩) (nv_pV hK hP (va_recv hK.1 hP (ci := 9) (q0 := 0) rfl rfl)) rfl rfl hl.1 rfl (lv_room (Nat.le_of_ble_eq_true rfl)) dX7_append_76 ⟨Nat.zero_le _, Nat.zero_le _⟩) hS (fun H locs hP hS => ?_)
            have hP : va_P D vwCl [(h, .inr (9, [.ref aG, .ref aB, .ref aH, .int (nI ch), .ref aS, .int (nI hs), .ref aI, .int (nI ty), .int ea, .int ra, .int (nI wy), .int wd, .ref aL, .int (nI ln), .int (nI 2), .int (nI sp), .int (nI iw), .ref aT])), (aG, .inl (cI, 128, .inl (gN G))), (aB, .inl (cI, 128, .inl (gN B))), (aH, .inl (cI, 1024, .inl (gN Hi))), (aS, .inl (cI, 128, .inl (gN Sv))), (aI, .inl (cI, 60, .inl (gN In))), (aL, .inl (cC, 40, .inl (gN Le))), (aT, .inl (cI, 360, .inl To))] H := hP
            exact nv_retM hq hx hb hr hlocks (nar_i _) (by rw [if_neg (by omega), if_pos h60] <;> rfl) hS hP (by rw [if_neg (by omega), if_pos h60, if_neg (by omega), if_pos h60, if_neg (by omega), if_pos h60]) dX7_append_79
        · have h4 : 4 < sm (bC p) 4 := by have e : k = 4 := (by omega); rw [e] at c3; omega
          refine lv_aload_n hx hb dX7_append_57 rfl (lv_at hl 2 rfl) ?_
          refine lv_iconst (v := nI 1) hx hb dX7_append_58 (by decide) ?_
          refine nv_kM (va_runV (As := [.int (nI 1)]) (rest := []) ⟨hx, hb, hml, hown, hts⟩ (c_X7_fails l hD 1) (cwV 1 hts gX7_append_X7_fails rfl rfl rfl (by decide +kernel) ⟨Nat.le_of_ble_eq_true rfl, Nat.le_of_ble_eq_true rfl⟩) (nv_pV hK hP (va_recv hK.1 hP (ci := 9) (q0 := 0) rfl rfl)) rfl rfl hl.1 rfl (lv_room (Nat.le_of_ble_eq_true rfl)) dX7_append_59 ⟨Nat.zero_le _, Nat.zero_le _⟩) hS (fun H locs hP hS => ?_)
          have hP : va_P D vwCl [(h, .inr (9, [.ref aG, .ref aB, .ref aH, .int (nI ch), .ref aS, .int (nI hs), .ref aI, .int (nI ty), .int ea, .int ra, .int (nI wy), .int wd, .ref aL, .int (nI ln), .int (nI 1), .int (nI sp), .int (nI iw), .ref aT])), (aG, .inl (cI, 128, .inl (gN G))), (aB, .inl (cI, 128, .inl (gN B))), (aH, .inl (cI, 1024, .inl (gN Hi))), (aS, .inl (cI, 128, .inl (gN Sv))), (aI, .inl (cI, 60, .inl (gN In))), (aL, .inl (cC, 40, .inl (gN Le))), (aT, .inl (cI, 360, .inl To))] H := hP
          exact nv_retM hq hx hb hr hlocks (nar_i _) (by rw [if_pos h4] <;> rfl) hS hP (by rw [if_pos h4, if_pos h4, if_pos h4]) dX7_append_62
      · refine lv_iload_n hx hb dX7_append_9 rfl (lv_at hl 3 rfl) ?_
        refine lv_iload_n hx hb dX7_append_10 rfl (lv_at hl 0 rfl) ?_
        refine nv_kS (va_runS (As := [.int p, .int (nI k)]) (rest := []) ⟨hx, hb, hml, hown, hts⟩ (c_X7_byteOf l (p) k (by omega)) (va_cwS 2 hts gX7_append_X7_byteOf rfl rfl rfl (by decide +kernel) ⟨Nat.le_of_ble_eq_true rfl, Nat.le_of_ble_eq_true rfl⟩) (nv_pS hK trivial) rfl rfl hl.1 rfl (lv_room (Nat.le_of_ble_eq_true rfl)) dX7_append_11 ⟨Nat.zero_le _, Nat.zero_le _⟩) ?_
        refine lv_istore (lv' := [(4, .int (nI (bO (p) k))), (3, .int (nI k)), (2, .int (nI (sm (bC p) k))), (0, .ref h), (1, .int p)]) hx hb dX7_append_14 hl (by decide) rfl (fun ls hl => ?_)
        refine lv_iload_n hx hb dX7_append_16 rfl (lv_at hl 2 rfl) ?_
        refine lv_iload hx hb dX7_append_17 (lv_at hl 0 rfl) ?_
        refine nv_jn (α := Nat) (fun r => W p0 l e0 ({ frames := 1, cells := 0, slots := 0, locals := 22 }) s m0 args below meth c0 H locs 0 0 Q (F0 m0 44 ls (.int (nI r) :: [.int (nI (sm (bC p) k))]))) ((if bO (p) k = 0 then 0 else (if nI (32) ≤ nI (bO (p) k) ∧ nI (bO (p) k) ≤ nI (126) then 1 else 100))) (fun r er => ?_) (fun hJ => ?_)
        · subst er
          refine nv_to (bC p k) (congrArg nI (nv_bC p k)) ?_
          refine nv_iadd hx hb dX7_append_44 ?_
          refine lv_istore_n (lv' := [(2, .int (nI (sm (bC p) k + (bC p k)))), (4, .int (nI (bO (p) k))), (3, .int (nI k)), (0, .ref h), (1, .int p)]) hx hb dX7_append_45 rfl hl (by decide) rfl (fun ls hl => ?_)
          refine lv_iinc (v := nI (k + 1)) (lv' := [(3, .int (nI (k + 1))), (2, .int (nI (sm (bC p) k + (bC p k)))), (4, .int (nI (bO (p) k))), (0, .ref h), (1, .int p)]) hx hb dX7_append_46 hl (k := 2) rfl (by show nI _ + Int32.ofInt 1 = _; exact nI_add _ 1) (by decide) rfl (fun ls hl => ?_)
          refine lv_goto (tgt := 4) hx hb dX7_append_49 (by decide) ?_
          exact ih4  (k + 1) ((by omega)) (by omega) _ _ hP hS ls (lv_sub hl [0, 1, 3, 4] rfl)
        · refine nv_if_ne (tgt := 26) hx hb dX7_append_19 (by decide) (by first | omega | (have := bO_lt p k; omega)) (fun c8 => ?_) (fun c8 => ?_)
          · refine lv_iload hx hb dX7_append_26 (lv_at hl 0 rfl) ?_
            refine lv_bipush (v := nI 32) hx hb dX7_append_28 (by decide) ?_
            refine lv_bipush (v := nI 126) hx hb dX7_append_30 (by decide) ?_
            refine nv_kS (va_runS (As := [.int (nI (bO (p) k)), .int (nI 32), .int (nI 126)]) (rest := [.int (nI (sm (bC p) k))]) ⟨hx, hb, hml, hown, hts⟩ (c_X7_in l (nI (bO (p) k)) (nI (32)) (nI (126))) (va_cwS 3 hts gX7_append_X7_in rfl rfl rfl (by decide +kernel) ⟨Nat.le_of_ble_eq_true rfl, Nat.le_of_ble_eq_true rfl⟩) (nv_pS hK trivial) rfl rfl hl.1 rfl (lv_room (Nat.le_of_ble_eq_true rfl)) dX7_append_32 ⟨Nat.zero_le _, Nat.zero_le _⟩) ?_
            refine nv_ifb_eq (tgt := 42) hx hb dX7_append_35 (by decide) (fun c9 => ?_) (fun c9 => ?_)
            · refine lv_bipush (v := nI 100) hx hb dX7_append_42 (by decide) ?_
              exact hJ _ (by rw [if_neg c8, if_neg c9])
            · refine lv_iconst (v := nI 1) hx hb dX7_append_38 (by decide) ?_
              refine lv_goto (tgt := 44) hx hb dX7_append_39 (by decide) ?_
              exact hJ _ (by rw [if_neg c8, if_pos c9])
          · refine lv_iconst (v := nI 0) hx hb dX7_append_22 (by decide) ?_
            refine lv_goto (tgt := 44) hx hb dX7_append_23 (by decide) ?_
            exact hJ _ (if_pos c8).symm
  exact hloop1 _ 0 ((Nat.zero_le _)) (Nat.lt_succ_self _) _ _ hP hS ls (lv_sub hl [0, 1, 2, 3] rfl)

set_option maxHeartbeats 1000000 in
set_option maxRecDepth 100000 in
theorem c_X7_errorPosition (l : Launch) {D : va_G} {cI cC : ClassId} {h aG aB aH aS aI aL aT : Nat} {G B Hi Sv In Le : Nat → Nat} {To : Nat → Int32} {ch hs ty wy ln th sp iw : Nat} {ea ra wd : Int32} {A : Nat → Prop} (hD : ∀ (G B Hi Sv In Le : Nat → Nat) (To : Nat → Int32) (fs : List Value), va_D A [(h, .inr (9, fs)), (aG, .inl (cI, 128, .inl (gN G))), (aB, .inl (cI, 128, .inl (gN B))), (aH, .inl (cI, 1024, .inl (gN Hi))), (aS, .inl (cI, 128, .inl (gN Sv))), (aI, .inl (cI, 60, .inl (gN In))), (aL, .inl (cC, 40, .inl (gN Le))), (aT, .inl (cI, 360, .inl To))])  : Met l yX7_errorPosition wsX7_errorPosition ({ frames := 1, cells := 0, slots := 0, locals := 21 }) (va_Pc [.ref h] (sPre D [(cI, .int), (cC, .char)] [] (fun H => va_P D vwCl [(h, .inr (9, [.ref aG, .ref aB, .ref aH, .int (nI ch), .ref aS, .int (nI hs), .ref aI, .int (nI ty), .int ea, .int ra, .int (nI wy), .int wd, .ref aL, .int (nI ln), .int (nI th), .int (nI sp), .int (nI iw), .ref aT])), (aG, .inl (cI, 128, .inl (gN G))), (aB, .inl (cI, 128, .inl (gN B))), (aH, .inl (cI, 1024, .inl (gN Hi))), (aS, .inl (cI, 128, .inl (gN Sv))), (aI, .inl (cI, 60, .inl (gN In))), (aL, .inl (cC, 40, .inl (gN Le))), (aT, .inl (cI, 360, .inl To))] H))) (mQ D ((if ea = -1 then 0 else ea)) [(h, .inr (9, [.ref aG, .ref aB, .ref aH, .int (nI ch), .ref aS, .int (nI hs), .ref aI, .int (nI ty), .int ea, .int ra, .int (nI wy), .int wd, .ref aL, .int (nI ln), .int (nI ((if ea = -1 then 1 else 0))), .int (nI sp), .int (nI iw), .ref aT])), (aG, .inl (cI, 128, .inl (gN G))), (aB, .inl (cI, 128, .inl (gN B))), (aH, .inl (cI, 1024, .inl (gN Hi))), (aS, .inl (cI, 128, .inl (gN Sv))), (aI, .inl (cI, 60, .inl (gN In))), (aL, .inl (cC, 40, .inl (gN Le))), (aT, .inl (cI, 360, .inl To))] A) 0 0 A := by
  refine nv_met (cc := cX7_errorPosition) (maxL := 1) (ret := (some .int)) (by decide) rfl (Nat.le_of_ble_eq_true rfl) ?_
  intro p0 e0 s m0 args below meth c0 Q hq hargs hnA hpre ls hl
  obtain ⟨hx, hb, hr, hts, hown, hlocks, hml⟩ := hnA
  obtain ⟨hP, hK⟩ := hpre
  have hown : s.vm.findClass RX7 = some m0.cls := hown
  have hP : va_P D vwCl [(h, .inr (9, [.ref aG, .ref aB, .ref aH, .int (nI ch), .ref aS, .int (nI hs), .ref aI, .int (nI ty), .int ea, .int ra, .int (nI wy), .int wd, .ref aL, .int (nI ln), .int (nI th), .int (nI sp), .int (nI iw), .ref aT])), (aG, .inl (cI, 128, .inl (gN G))), (aB, .inl (cI, 128, .inl (gN B))), (aH, .inl (cI, 1024, .inl (gN Hi))), (aS, .inl (cI, 128, .inl (gN Sv))), (aI, .inl (cI, 60, .inl (gN In))), (aL, .inl (cC, 40, .inl (gN Le))), (aT, .inl (cI, 360, .inl To))] s.heap := hP
  have hl : lv_has ls 1 [(0, .ref h)] := hl
  have hS : va_S A s.heap s.heap [] := va_S.rf
  have in_X7 : ∀ w ∈ wsX70, w ∈ wsX7_errorPosition := by decide +kernel
  have fl_25 := hts (.fieldLink RX7 25 "DoorDialectModel" "errorAt" "I") (by decide +kernel)
  refine lv_aload_n hx hb dX7_errorPosition_0 rfl (lv_at hl 0 rfl) ?_
  refine va_get (D := D) (ci := 9) (v := .int ea) (C := RX7) (T := TX7) (N := 18) hx hb hts in_X7 hown hK.1 hP 0 rfl rfl 8 (by decide) fl_25 (fun _ h9 => h9) rfl dX7_errorPosition_1 ?_
  refine lv_iconst (v := (-1)) hx hb dX7_errorPosition_4 (by decide) ?_
  refine lv_icmp_ne (tgt := 16) hx hb dX7_errorPosition_5 (by decide) (fun c1 => ?_) (fun c1 => ?_)
  · refine lv_aload_n hx hb dX7_errorPosition_16 rfl (lv_at hl 0 rfl) ?_
    refine lv_aload_n hx hb dX7_errorPosition_17 rfl (lv_at hl 0 rfl) ?_
    refine va_get (D := D) (ci := 9) (v := .int ea) (C := RX7) (T := TX7) (N := 18) hx hb hts in_X7 hown hK.1 hP 0 rfl rfl 8 (by decide) fl_25 (fun _ h9 => h9) rfl dX7_errorPosition_18 ?_
    refine nv_kM (va_runV (As := [.int ea]) (rest := []) ⟨hx, hb, hml, hown, hts⟩ (c_X7_done l hD (ea)) (cwV 1 hts gX7_errorPosition_X7_done rfl rfl rfl (by decide +kernel) ⟨Nat.le_of_ble_eq_true rfl, Nat.le_of_ble_eq_true rfl⟩) (nv_pV hK hP (va_recv hK.1 hP (ci := 9) (q0 := 0) rfl rfl)) rfl rfl hl.1 rfl (lv_room (Nat.le_of_ble_eq_true rfl)) dX7_errorPosition_21 ⟨Nat.zero_le _, Nat.zero_le _⟩) hS (fun H locs hP hS => ?_)
    have hP : va_P D vwCl [(h, .inr (9, [.ref aG, .ref aB, .ref aH, .int (nI ch), .ref aS, .int (nI hs), .ref aI, .int (nI ty), .int ea, .int ra, .int (nI wy), .int wd, .ref aL, .int (nI ln), .int (nI 0), .int (nI sp), .int (nI iw), .ref aT])), (aG, .inl (cI, 128, .inl (gN G))), (aB, .inl (cI, 128, .inl (gN B))), (aH, .inl (cI, 1024, .inl (gN Hi))), (aS, .inl (cI, 128, .inl (gN Sv))), (aI, .inl (cI, 60, .inl (gN In))), (aL, .inl (cC, 40, .inl (gN Le))), (aT, .inl (cI, 360, .inl To))] H := hP
    exact nv_retM hq hx hb hr hlocks (nar_i _) (by rw [if_neg c1]) hS hP (by rw [if_neg c1]) dX7_errorPosition_24
  · refine lv_aload_n hx hb dX7_errorPosition_8 rfl (lv_at hl 0 rfl) ?_
    refine lv_iconst (v := nI 1) hx hb dX7_errorPosition_9 (by decide) ?_
    refine nv_kM (va_runV (As := [.int (nI 1)]) (rest := []) ⟨hx, hb, hml, hown, hts⟩ (c_X7_fails l hD 1) (cwV 1 hts gX7_errorPosition_X7_fails rfl rfl rfl (by decide +kernel) ⟨Nat.le_of_ble_eq_true rfl, Nat.le_of_ble_eq_true rfl⟩) (nv_pV hK hP (va_recv hK.1 hP (ci := 9) (q0 := 0) rfl rfl)) rfl rfl hl.1 rfl (lv_room (Nat.le_of_ble_eq_true rfl)) dX7_errorPosition_10 ⟨Nat.zero_le _, Nat.zero_le _⟩) hS (fun H locs hP hS => ?_)
    have hP : va_P D vwCl [(h, .inr (9, [.ref aG, .ref aB, .ref aH, .int (nI ch), .ref aS, .int (nI hs), .ref aI, .int (nI ty), .int ea, .int ra, .int (nI wy), .int wd, .ref aL, .int (nI ln), .int (nI 1), .int (nI sp), .int (nI iw), .ref aT])), (aG, .inl (cI, 128, .inl (gN G))), (aB, .inl (cI, 128, .inl (gN B))), (aH, .inl (cI, 1024, .inl (gN Hi))), (aS, .inl (cI, 128, .inl (gN Sv))), (aI, .inl (cI, 60, .inl (gN In))), (aL, .inl (cC, 40, .inl (gN Le))), (aT, .inl (cI, 360, .inl To))] H := hP
    refine lv_goto (tgt := 24) hx hb dX7_errorPosition_13 (by decide) ?_
    exact nv_retM hq hx hb hr hlocks (nar_i _) (by rw [if_pos c1]; rfl) hS hP (by rw [if_pos c1]) dX7_errorPosition_24

set_option maxHeartbeats 1000000 in
set_option maxRecDepth 100000 in
theorem c_X7_refusedItem (l : Launch) {D : va_G} {cI cC : ClassId} {h aG aB aH aS aI aL aT : Nat} {G B Hi Sv In Le : Nat → Nat} {To : Nat → Int32} {ch hs ty wy ln th sp iw : Nat} {ea ra wd : Int32} {A : Nat → Prop} (hD : ∀ (G B Hi Sv In Le : Nat → Nat) (To : Nat → Int32) (fs : List Value), va_D A [(h, .inr (9, fs)), (aG, .inl (cI, 128, .inl (gN G))), (aB, .inl (cI, 128, .inl (gN B))), (aH, .inl (cI, 1024, .inl (gN Hi))), (aS, .inl (cI, 128, .inl (gN Sv))), (aI, .inl (cI, 60, .inl (gN In))), (aL, .inl (cC, 40, .inl (gN Le))), (aT, .inl (cI, 360, .inl To))])  : Met l yX7_refusedItem wsX7_refusedItem ({ frames := 1, cells := 0, slots := 0, locals := 21 }) (va_Pc [.ref h] (sPre D [(cI, .int), (cC, .char)] [] (fun H => va_P D vwCl [(h, .inr (9, [.ref aG, .ref aB, .ref aH, .int (nI ch), .ref aS, .int (nI hs), .ref aI, .int (nI ty), .int ea, .int ra, .int (nI wy), .int wd, .ref aL, .int (nI ln), .int (nI th), .int (nI sp), .int (nI iw), .ref aT])), (aG, .inl (cI, 128, .inl (gN G))), (aB, .inl (cI, 128, .inl (gN B))), (aH, .inl (cI, 1024, .inl (gN Hi))), (aS, .inl (cI, 128, .inl (gN Sv))), (aI, .inl (cI, 60, .inl (gN In))), (aL, .inl (cC, 40, .inl (gN Le))), (aT, .inl (cI, 360, .inl To))] H))) (mQ D ((if ra = -1 then 0 else ra)) [(h, .inr (9, [.ref aG, .ref aB, .ref aH, .int (nI ch), .ref aS, .int (nI hs), .ref aI, .int (nI ty), .int ea, .int ra, .int (nI wy), .int wd, .ref aL, .int (nI ln), .int (nI ((if ra = -1 then 1 else 0))), .int (nI sp), .int (nI iw), .ref aT])), (aG, .inl (cI, 128, .inl (gN G))), (aB, .inl (cI, 128, .inl (gN B))), (aH, .inl (cI, 1024, .inl (gN Hi))), (aS, .inl (cI, 128, .inl (gN Sv))), (aI, .inl (cI, 60, .inl (gN In))), (aL, .inl (cC, 40, .inl (gN Le))), (aT, .inl (cI, 360, .inl To))] A) 0 0 A := by
  refine nv_met (cc := cX7_refusedItem) (maxL := 1) (ret := (some .int)) (by decide) rfl (Nat.le_of_ble_eq_true rfl) ?_
  intro p0 e0 s m0 args below meth c0 Q hq hargs hnA hpre ls hl
  obtain ⟨hx, hb, hr, hts, hown, hlocks, hml⟩ := hnA
  obtain ⟨hP, hK⟩ := hpre
  have hown : s.vm.findClass RX7 = some m0.cls := hown
  have hP : va_P D vwCl [(h, .inr (9, [.ref aG, .ref aB, .ref aH, .int (nI ch), .ref aS, .int (nI hs), .ref aI, .int (nI ty), .int ea, .int ra, .int (nI wy), .int wd, .ref aL, .int (nI ln), .int (nI th), .int (nI sp), .int (nI iw), .ref aT])), (aG, .inl (cI, 128, .inl (gN G))), (aB, .inl (cI, 128, .inl (gN B))), (aH, .inl (cI, 1024, .inl (gN Hi))), (aS, .inl (cI, 128, .inl (gN Sv))), (aI, .inl (cI, 60, .inl (gN In))), (aL, .inl (cC, 40, .inl (gN Le))), (aT, .inl (cI, 360, .inl To))] s.heap := hP
  have hl : lv_has ls 1 [(0, .ref h)] := hl
  have hS : va_S A s.heap s.heap [] := va_S.rf
  have in_X7 : ∀ w ∈ wsX70, w ∈ wsX7_refusedItem := by decide +kernel
  have fl_29 := hts (.fieldLink RX7 29 "DoorDialectModel" "refusedAt" "I") (by decide +kernel)
  refine lv_aload_n hx hb dX7_refusedItem_0 rfl (lv_at hl 0 rfl) ?_
  refine va_get (D := D) (ci := 9) (v := .int ra) (C := RX7) (T := TX7) (N := 18) hx hb hts in_X7 hown hK.1 hP 0 rfl rfl 9 (by decide) fl_29 (fun _ h9 => h9) rfl dX7_refusedItem_1 ?_
  refine lv_iconst (v := (-1)) hx hb dX7_refusedItem_4 (by decide) ?_
  refine lv_icmp_ne (tgt := 16) hx hb dX7_refusedItem_5 (by decide) (fun c1 => ?_) (fun c1 => ?_)
  · refine lv_aload_n hx hb dX7_refusedItem_16 rfl (lv_at hl 0 rfl) ?_
    refine lv_aload_n hx hb dX7_refusedItem_17 rfl (lv_at hl 0 rfl) ?_
    refine va_get (D := D) (ci := 9) (v := .int ra) (C := RX7) (T := TX7) (N := 18) hx hb hts in_X7 hown hK.1 hP 0 rfl rfl 9 (by decide) fl_29 (fun _ h9 => h9) rfl dX7_refusedItem_18 ?_
    refine nv_kM (va_runV (As := [.int ra]) (rest := []) ⟨hx, hb, hml, hown, hts⟩ (c_X7_done l hD (ra)) (cwV 1 hts gX7_refusedItem_X7_done rfl rfl rfl (by decide +kernel) ⟨Nat.le_of_ble_eq_true rfl, Nat.le_of_ble_eq_true rfl⟩) (nv_pV hK hP (va_recv hK.1 hP (ci := 9) (q0 := 0) rfl rfl)) rfl rfl hl.1 rfl (lv_room (Nat.le_of_ble_eq_true rfl)) dX7_refusedItem_21 ⟨Nat.zero_le _, Nat.zero_le _⟩) hS (fun H locs hP hS => ?_)
    have hP : va_P D vwCl [(h, .inr (9, [.ref aG, .ref aB, .ref aH, .int (nI ch), .ref aS, .int (nI hs), .ref aI, .int (nI ty), .int ea, .int ra, .int (nI wy), .int wd, .ref aL, .int (nI ln), .int (nI 0), .int (nI sp), .int (nI iw), .ref aT])), (aG, .inl (cI, 128, .inl (gN G))), (aB, .inl (cI, 128, .inl (gN B))), (aH, .inl (cI, 1024, .inl (gN Hi))), (aS, .inl (cI, 128, .inl (gN Sv))), (aI, .inl (cI, 60, .inl (gN In))), (aL, .inl (cC, 40, .inl (gN Le))), (aT, .inl (cI, 360, .inl To))] H := hP
    exact nv_retM hq hx hb hr hlocks (nar_i _) (by rw [if_neg c1]) hS hP (by rw [if_neg c1]) dX7_refusedItem_24
  · refine lv_aload_n hx hb dX7_refusedItem_8 rfl (lv_at hl 0 rfl) ?_
    refine lv_iconst (v := nI 1) hx hb dX7_refusedItem_9 (by decide) ?_
    refine nv_kM (va_runV (As := [.int (nI 1)]) (rest := []) ⟨hx, hb, hml, hown, hts⟩ (c_X7_fails l hD 1) (cwV 1 hts gX7_refusedItem_X7_fails rfl rfl rfl (by decide +kernel) ⟨Nat.le_of_ble_eq_true rfl, Nat.le_of_ble_eq_true rfl⟩) (nv_pV hK hP (va_recv hK.1 hP (ci := 9) (q0 := 0) rfl rfl)) rfl rfl hl.1 rfl (lv_room (Nat.le_of_ble_eq_true rfl)) dX7_refusedItem_10 ⟨Nat.zero_le _, Nat.zero_le _⟩) hS (fun H locs hP hS => ?_)
    have hP : va_P D vwCl [(h, .inr (9, [.ref aG, .ref aB, .ref aH, .int (nI ch), .ref aS, .int (nI hs), .ref aI, .int (nI ty), .int ea, .int ra, .int (nI wy), .int wd, .ref aL, .int (nI ln), .int (nI 1), .int (nI sp), .int (nI iw), .ref aT])), (aG, .inl (cI, 128, .inl (gN G))), (aB, .inl (cI, 128, .inl (gN B))), (aH, .inl (cI, 1024, .inl (gN Hi))), (aS, .inl (cI, 128, .inl (gN Sv))), (aI, .inl (cI, 60, .inl (gN In))), (aL, .inl (cC, 40, .inl (gN Le))), (aT, .inl (cI, 360, .inl To))] H := hP
    refine lv_goto (tgt := 24) hx hb dX7_refusedItem_13 (by decide) ?_
    exact nv_retM hq hx hb hr hlocks (nar_i _) (by rw [if_pos c1]; rfl) hS hP (by rw [if_pos c1]) dX7_refusedItem_24
