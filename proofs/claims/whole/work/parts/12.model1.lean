theorem nv_pos01 (a : Nat) : nI (if a = 0 then 0 else 1) = nI (bI (0 < a)) := by
  by_cases h : a = 0
  · rw [if_pos h, bI_f (by omega)]
  · rw [if_neg h, bI_t (by omega)]
def qDoor (G : Nat → Nat) (d : Nat) (j : Nat) : Int32 := match j with
  | 0 => nI (G (32 + d))
  | 1 => nI (G (40 + d))
  | 2 => nI (G (48 + d))
  | 3 => nI (G (56 + d)) - nI 1
  | 4 => nI (gCase G d)
  | 5 => nI (G (64 + d))
  | 6 => nI (G (72 + d))
  | 7 => nI (G (80 + d))
  | 8 => nI (G (88 + d))
  | 9 => nI (G (96 + d))
  | _ => nI (G (104 + d))
def qAcc (G : Nat → Nat) (ty ch : Nat) (j : Nat) : Nat := match j with
  | 0 => G 0
  | 1 => G 1
  | 2 => G 2
  | 3 => gMany G 80
  | 4 => gMany G 72
  | 5 => G 3
  | 6 => G 4
  | 7 => G 5
  | 8 => G 6
  | 9 => G 7
  | 10 => gUnlike G
  | 11 => ty
  | _ => ch
theorem nv_bset {P : Nat → Prop} [DecidablePred P] {k : Nat} (h : P k) (hk : k < 31) : nI (bs P k) ||| nI (1 <<< k) = nI (bs P (k + 1)) := by
  rw [nb_or]
  rw [show bs P (k + 1) = bs P k ||| (if P k then 1 <<< k else 0) from rfl, if_pos h]
theorem nv_bnot {P : Nat → Prop} [DecidablePred P] {k : Nat} (h : ¬ P k) : nI (bs P k) ||| nI 0 = nI (bs P (k + 1)) := by
  rw [nb_or]
  rw [show bs P (k + 1) = bs P k ||| (if P k then 1 <<< k else 0) from rfl, if_neg h]
theorem nv_bor {P : Nat → Prop} [DecidablePred P] {k r : Nat} (hr : r = if P k then 1 <<< k else 0) : nI (bs P k) ||| nI r = nI (bs P (k + 1)) := by
  rw [nb_or, hr]; rfl
theorem nv_1shl {k : Nat} (hk : k < 31) : nI 1 <<< (nI k &&& 31) = nI (1 <<< k) := nb_shl (by omega) (by rw [Nat.one_mul]; exact Nat.lt_of_lt_of_le (Nat.pow_lt_pow_right (by decide) hk) (by decide))

set_option maxHeartbeats 1000000 in
set_option maxRecDepth 100000 in
theorem c_X7_standing (l : Launch) {D : va_G} {cI cC : ClassId} {h aG aB aH aS aI aL aT : Nat} {G B Hi Sv In Le : Nat → Nat} {To : Nat → Int32} {ch hs ty wy ln th sp iw : Nat} {ea ra wd : Int32} {b : Nat} (hG : gWf b G) (t : Nat) (ht : t < 6) : Met l yX7_standing wsX7_standing ({ frames := 0, cells := 0, slots := 0, locals := 0 }) (va_Pc [.ref h, .int (nI t)] (sPre D [(cI, .int), (cC, .char)] [] (fun H => va_P D vwCl [(h, .inr (9, [.ref aG, .ref aB, .ref aH, .int (nI ch), .ref aS, .int (nI hs), .ref aI, .int (nI ty), .int ea, .int ra, .int (nI wy), .int wd, .ref aL, .int (nI ln), .int (nI th), .int (nI sp), .int (nI iw), .ref aT])), (aG, .inl (cI, 128, .inl (gN G))), (aB, .inl (cI, 128, .inl (gN B))), (aH, .inl (cI, 1024, .inl (gN Hi))), (aS, .inl (cI, 128, .inl (gN Sv))), (aI, .inl (cI, 60, .inl (gN In))), (aL, .inl (cC, 40, .inl (gN Le))), (aT, .inl (cI, 360, .inl To))] H))) (sQ (nI (gStand G t))) 0 0 (fun _ => False) := by
  refine nv_met (cc := cX7_standing) (maxL := 4) (ret := (some .int)) (by decide) rfl (Nat.le_of_ble_eq_true rfl) ?_
  intro p0 e0 s m0 args below meth c0 Q hq hargs hnA hpre ls hl
  obtain ⟨hx, hb, hr, hts, hown, hlocks, hml⟩ := hnA
  obtain ⟨hP, hK⟩ := hpre
  have hown : s.vm.findClass RX7 = some m0.cls := hown
  have hP : va_P D vwCl [(h, .inr (9, [.ref aG, .ref aB, .ref aH, .int (nI ch), .ref aS, .int (nI hs), .ref aI, .int (nI ty), .int ea, .int ra, .int (nI wy), .int wd, .ref aL, .int (nI ln), .int (nI th), .int (nI sp), .int (nI iw), .ref aT])), (aG, .inl (cI, 128, .inl (gN G))), (aB, .inl (cI, 128, .inl (gN B))), (aH, .inl (cI, 1024, .inl (gN Hi))), (aS, .inl (cI, 128, .inl (gN Sv))), (aI, .inl (cI, 60, .inl (gN In))), (aL, .inl (cC, 40, .inl (gN Le))), (aT, .inl (cI, 360, .inl To))] s.heap := hP
  have hl : lv_has ls 4 [(0, .ref h), (1, .int (nI t))] := hl
  have in_X7 : ∀ w ∈ wsX70, w ∈ wsX7_standing := by decide +kernel
  have fl_7 := hts (.fieldLink RX7 7 "DoorDialectModel" "g" "[I") (by decide +kernel)
  obtain ⟨g_b, g_k, g_0, g_1, g_2, g_e, g_d, g_t, g_y, g_s, g_h⟩ := id hG
  refine lv_iconst (v := nI 0) hx hb dX7_standing_0 (by decide) ?_
  refine lv_istore_n (lv' := [(2, .int (nI 0)), (0, .ref h), (1, .int (nI t))]) hx hb dX7_standing_1 rfl hl (by decide) rfl (fun ls hl => ?_)
  refine lv_iconst (v := nI 0) hx hb dX7_standing_2 (by decide) ?_
  refine lv_istore_n (lv' := [(3, .int (nI 0)), (2, .int (nI 0)), (0, .ref h), (1, .int (nI t))]) hx hb dX7_standing_3 rfl hl (by decide) rfl (fun ls hl => ?_)
  have hloop1 : ∀ (nn : Nat) (d : Nat), (d ≤ G 0) → G 0 - d < nn → ∀ (ls : Array Slot), lv_has ls 4 [(3, .int (nI d)), (2, .int (nI (sm (fun d => bI (G (56 + d) = t + 1)) d))), (0, .ref h), (1, .int (nI t))] → W p0 l e0 ({ frames := 0, cells := 0, slots := 0, locals := 0 }) s m0 args below meth c0 s.heap [] 0 0 Q (F0 m0 4 ls []) := by
    intro nn4
    induction nn4 with
    | zero => intro d hd hn0  _ _; exact absurd hn0 (Nat.not_lt_zero _)
    | succ nn4 ih4 =>
      intro d hd hn4  ls hl
      refine lv_iload_n hx hb dX7_standing_4 rfl (lv_at hl 0 rfl) ?_
      refine lv_aload_n hx hb dX7_standing_5 rfl (lv_at hl 2 rfl) ?_
      refine va_get (D := D) (ci := 9) (v := .ref aG) (C := RX7) (T := TX7) (N := 18) hx hb hts in_X7 hown hK.1 hP 0 rfl rfl 0 (by decide) fl_7 (fun _ h9 => h9) rfl dX7_standing_6 ?_
      refine lv_iconst (v := nI 0) hx hb dX7_standing_9 (by decide) ?_
      refine nv_gald (i := 0) hx hb hK.1 hP 1 0 rfl rfl (by first | omega | (simp only [gEndAt]; omega)) (by decide) dX7_standing_10 ?_
      have q2 : G 0 < 2 ^ 20 := hG.lt (k := 0) (by omega)
      refine nv_icmp_ge (tgt := 43) hx hb dX7_standing_11 (by decide) (by omega) (by omega) (fun c3 => ?_) (fun c3 => ?_)
      · refine lv_iload_n hx hb dX7_standing_43 rfl (lv_at hl 1 rfl) ?_
        exact nv_retS hq hx hb hr hlocks (nar_i _) (by rw [show d = G 0 by omega] <;> rfl) dX7_standing_44
      · refine lv_iload_n hx hb dX7_standing_14 rfl (lv_at hl 1 rfl) ?_
        refine lv_aload_n hx hb dX7_standing_15 rfl (lv_at hl 2 rfl) ?_
        refine va_get (D := D) (ci := 9) (v := .ref aG) (C := RX7) (T := TX7) (N := 18) hx hb hts in_X7 hown hK.1 hP 0 rfl rfl 0 (by decide) fl_7 (fun _ h9 => h9) rfl dX7_standing_16 ?_
        refine lv_bipush (v := nI 56) hx hb dX7_standing_19 (by decide) ?_
        refine lv_iload_n hx hb dX7_standing_21 rfl (lv_at hl 0 rfl) ?_
        refine nv_iadd hx hb dX7_standing_22 ?_
        refine nv_gald (i := 56 + d) hx hb hK.1 hP 1 0 rfl rfl (by first | omega | (simp only [gEndAt]; omega)) (by decide) dX7_standing_23 ?_
        have q4 : G (56 + d) < 2 ^ 20 := hG.lt (k := 56 + d) (by omega)
        refine lv_iload_n hx hb dX7_standing_24 rfl (lv_at hl 3 rfl) ?_
        refine lv_iconst (v := nI 1) hx hb dX7_standing_25 (by decide) ?_
        refine nv_iadd hx hb dX7_standing_26 ?_
        refine nv_jn (α := Nat) (fun r => W p0 l e0 ({ frames := 0, cells := 0, slots := 0, locals := 0 }) s m0 args below meth c0 s.heap [] 0 0 Q (F0 m0 35 ls (.int (nI r) :: [.int (nI (sm (fun d => bI (G (56 + d) = t + 1)) d))]))) (bI (G (56 + d) = t + 1)) (fun r er => ?_) (fun hJ => ?_)
        · subst er
          refine nv_iadd hx hb dX7_standing_35 ?_
          refine lv_istore_n (lv' := [(2, .int (nI (sm (fun d => bI (G (56 + d) = t + 1)) d + (bI (G (56 + d) = t + 1))))), (3, .int (nI d)), (0, .ref h), (1, .int (nI t))]) hx hb dX7_standing_36 rfl hl (by decide) rfl (fun ls hl => ?_)
          refine lv_iinc (v := nI (d + 1)) (lv' := [(3, .int (nI (d + 1))), (2, .int (nI (sm (fun d => bI (G (56 + d) = t + 1)) d + (bI (G (56 + d) = t + 1))))), (0, .ref h), (1, .int (nI t))]) hx hb dX7_standing_37 hl (k := 1) rfl (by show nI _ + Int32.ofInt 1 = _; exact nI_add _ 1) (by decide) rfl (fun ls hl => ?_)
          refine lv_goto (tgt := 4) hx hb dX7_standing_40 (by decide) ?_
          exact ih4  (d + 1) ((by omega)) (by omega) ls (lv_sub hl [0, 1, 2, 3] rfl)
        · refine nv_icmp_ne (tgt := 34) hx hb dX7_standing_27 (by decide) (by omega) (by omega) (fun c5 => ?_) (fun c5 => ?_)
          · refine lv_iconst (v := nI 0) hx hb dX7_standing_34 (by decide) ?_
            exact hJ _ (bI_f c5).symm
          · refine lv_iconst (v := nI 1) hx hb dX7_standing_30 (by decide) ?_
            refine lv_goto (tgt := 35) hx hb dX7_standing_31 (by decide) ?_
            exact hJ _ (bI_t c5).symm
  exact hloop1 _ 0 ((Nat.zero_le _)) (Nat.lt_succ_self _) ls (lv_sub hl [0, 1, 2, 3] rfl)

set_option maxHeartbeats 1000000 in
set_option maxRecDepth 100000 in
theorem c_X7_fits (l : Launch) {D : va_G} {cI cC : ClassId} {h aG aB aH aS aI aL aT : Nat} {G B Hi Sv In Le : Nat → Nat} {To : Nat → Int32} {ch hs ty wy ln th sp iw : Nat} {ea ra wd : Int32} {b : Nat} (hG : gWf b G) (k a g : Nat) (hk : k < 5) (ha : a < 2 ^ 31) (hg : g < 2 ^ 31) : Met l yX7_fits wsX7_fits ({ frames := 0, cells := 0, slots := 0, locals := 0 }) (va_Pc [.ref h, .int (nI k), .int (nI a), .int (nI g)] (sPre D [(cI, .int), (cC, .char)] [] (fun H => va_P D vwCl [(h, .inr (9, [.ref aG, .ref aB, .ref aH, .int (nI ch), .ref aS, .int (nI hs), .ref aI, .int (nI ty), .int ea, .int ra, .int (nI wy), .int wd, .ref aL, .int (nI ln), .int (nI th), .int (nI sp), .int (nI iw), .ref aT])), (aG, .inl (cI, 128, .inl (gN G))), (aB, .inl (cI, 128, .inl (gN B))), (aH, .inl (cI, 1024, .inl (gN Hi))), (aS, .inl (cI, 128, .inl (gN Sv))), (aI, .inl (cI, 60, .inl (gN In))), (aL, .inl (cC, 40, .inl (gN Le))), (aT, .inl (cI, 360, .inl To))] H))) (sQ (nI (gFit G k a g))) 0 0 (fun _ => False) := by
  refine nv_met (cc := cX7_fits) (maxL := 4) (ret := (some .int)) (by decide) rfl (Nat.le_of_ble_eq_true rfl) ?_
  intro p0 e0 s m0 args below meth c0 Q hq hargs hnA hpre ls hl
  obtain ⟨hx, hb, hr, hts, hown, hlocks, hml⟩ := hnA
  obtain ⟨hP, hK⟩ := hpre
  have hown : s.vm.findClass RX7 = some m0.cls := hown
  have hP : va_P D vwCl [(h, .inr (9, [.ref aG, .ref aB, .ref aH, .int (nI ch), .ref aS, .int (nI hs), .ref aI, .int (nI ty), .int ea, .int ra, .int (nI wy), .int wd, .ref aL, .int (nI ln), .int (nI th), .int (nI sp), .int (nI iw), .ref aT])), (aG, .inl (cI, 128, .inl (gN G))), (aB, .inl (cI, 128, .inl (gN B))), (aH, .inl (cI, 1024, .inl (gN Hi))), (aS, .inl (cI, 128, .inl (gN Sv))), (aI, .inl (cI, 60, .inl (gN In))), (aL, .inl (cC, 40, .inl (gN Le))), (aT, .inl (cI, 360, .inl To))] s.heap := hP
  have hl : lv_has ls 4 [(0, .ref h), (1, .int (nI k)), (2, .int (nI a)), (3, .int (nI g))] := hl
  have in_X7 : ∀ w ∈ wsX70, w ∈ wsX7_fits := by decide +kernel
  have fl_7 := hts (.fieldLink RX7 7 "DoorDialectModel" "g" "[I") (by decide +kernel)
  refine lv_aload_n hx hb dX7_fits_0 rfl (lv_at hl 0 rfl) ?_
  refine va_get (D := D) (ci := 9) (v := .ref aG) (C := RX7) (T := TX7) (N := 18) hx hb hts in_X7 hown hK.1 hP 0 rfl rfl 0 (by decide) fl_7 (fun _ h9 => h9) rfl dX7_fits_1 ?_
  refine lv_bipush (v := nI 118) hx hb dX7_fits_4 (by decide) ?_
  refine lv_iload_n hx hb dX7_fits_6 rfl (lv_at hl 1 rfl) ?_
  refine nv_iadd hx hb dX7_fits_7 ?_
  refine nv_gald (i := 118 + k) hx hb hK.1 hP 1 0 rfl rfl (by first | omega | (simp only [gEndAt]; omega)) (by decide) dX7_fits_8 ?_
  have q1 : G (118 + k) < 2 ^ 20 := hG.lt (k := 118 + k) (by omega)
  refine lv_iload_n hx hb dX7_fits_9 rfl (lv_at hl 2 rfl) ?_
  refine nv_jn (α := Nat) (fun r => W p0 l e0 ({ frames := 0, cells := 0, slots := 0, locals := 0 }) s m0 args below meth c0 s.heap [] 0 0 Q (F0 m0 18 ls (.int (nI r) :: []))) (bI (G (118 + k) = a)) (fun r er => ?_) (fun hJ => ?_)
  · subst er
    refine lv_aload_n hx hb dX7_fits_18 rfl (lv_at hl 0 rfl) ?_
    refine va_get (D := D) (ci := 9) (v := .ref aG) (C := RX7) (T := TX7) (N := 18) hx hb hts in_X7 hown hK.1 hP 0 rfl rfl 0 (by decide) fl_7 (fun _ h9 => h9) rfl dX7_fits_19 ?_
    refine lv_bipush (v := nI 123) hx hb dX7_fits_22 (by decide) ?_
    refine lv_iload_n hx hb dX7_fits_24 rfl (lv_at hl 1 rfl) ?_
    refine nv_iadd hx hb dX7_fits_25 ?_
    refine nv_gald (i := 123 + k) hx hb hK.1 hP 1 0 rfl rfl (by first | omega | (simp only [gEndAt]; omega)) (by decide) dX7_fits_26 ?_
    have q3 : G (123 + k) < 2 ^ 20 := hG.lt (k := 123 + k) (by omega)
    refine lv_iload_n hx hb dX7_fits_27 rfl (lv_at hl 3 rfl) ?_
    refine nv_jn (α := Nat) (fun r => W p0 l e0 ({ frames := 0, cells := 0, slots := 0, locals := 0 }) s m0 args below meth c0 s.heap [] 0 0 Q (F0 m0 36 ls (.int (nI r) :: [.int (nI (bI (G (118 + k) = a)))]))) (bI (G (123 + k) = g)) (fun r er => ?_) (fun hJ => ?_)
    · subst er
      refine nv_iadd hx hb dX7_fits_36 ?_
      exact nv_retS hq hx hb hr hlocks (nar_i _) (rfl) dX7_fits_37
    · refine nv_icmp_ne (tgt := 35) hx hb dX7_fits_28 (by decide) (by omega) (by omega) (fun c4 => ?_) (fun c4 => ?_)
      · refine lv_iconst (v := nI 0) hx hb dX7_fits_35 (by decide) ?_
        exact hJ _ (bI_f c4).symm
      · refine lv_iconst (v := nI 1) hx hb dX7_fits_31 (by decide) ?_
        refine lv_goto (tgt := 36) hx hb dX7_fits_32 (by decide) ?_
        exact hJ _ (bI_t c4).symm
  · refine nv_icmp_ne (tgt := 17) hx hb dX7_fits_10 (by decide) (by omega) (by omega) (fun c2 => ?_) (fun c2 => ?_)
    · refine lv_iconst (v := nI 0) hx hb dX7_fits_17 (by decide) ?_
      exact hJ _ (bI_f c2).symm
    · refine lv_iconst (v := nI 1) hx hb dX7_fits_13 (by decide) ?_
      refine lv_goto (tgt := 18) hx hb dX7_fits_14 (by decide) ?_
      exact hJ _ (bI_t c2).symm

set_option maxHeartbeats 1000000 in
set_option maxRecDepth 100000 in
theorem c_X7_sameKey (l : Launch) {D : va_G} {cI cC : ClassId} {h aG aB aH aS aI aL aT : Nat} {G B Hi Sv In Le : Nat → Nat} {To : Nat → Int32} {ch hs ty wy ln th sp iw : Nat} {ea ra wd : Int32} {b : Nat} (hG : gWf b G) (a g : Nat) (ha : a < 2 ^ 31) (hg : g < 2 ^ 31) : Met l yX7_sameKey wsX7_sameKey ({ frames := 1, cells := 0, slots := 0, locals := 23 }) (va_Pc [.ref h, .int (nI a), .int (nI g)] (sPre D [(cI, .int), (cC, .char)] [] (fun H => va_P D vwCl [(h, .inr (9, [.ref aG, .ref aB, .ref aH, .int (nI ch), .ref aS, .int (nI hs), .ref aI, .int (nI ty), .int ea, .int ra, .int (nI wy), .int wd, .ref aL, .int (nI ln), .int (nI th), .int (nI sp), .int (nI iw), .ref aT])), (aG, .inl (cI, 128, .inl (gN G))), (aB, .inl (cI, 128, .inl (gN B))), (aH, .inl (cI, 1024, .inl (gN Hi))), (aS, .inl (cI, 128, .inl (gN Sv))), (aI, .inl (cI, 60, .inl (gN In))), (aL, .inl (cC, 40, .inl (gN Le))), (aT, .inl (cI, 360, .inl To))] H))) (sQ ((if gSame G a g < G 2 then nI (gSame G a g) else -1))) 0 0 (fun _ => False) := by
  refine nv_met (cc := cX7_sameKey) (maxL := 4) (ret := (some .int)) (by decide) rfl (Nat.le_of_ble_eq_true rfl) ?_
  intro p0 e0 s m0 args below meth c0 Q hq hargs hnA hpre ls hl
  obtain ⟨hx, hb, hr, hts, hown, hlocks, hml⟩ := hnA
  obtain ⟨hP, hK⟩ := hpre
  have hown : s.vm.findClass RX7 = some m0.cls := hown
  have hP : va_P D vwCl [(h, .inr (9, [.ref aG, .ref aB, .ref aH, .int (nI ch), .ref aS, .int (nI hs), .ref aI, .int (nI ty), .int ea, .int ra, .int (nI wy), .int wd, .ref aL, .int (nI ln), .int (nI th), .int (nI sp), .int (nI iw), .ref aT])), (aG, .inl (cI, 128, .inl (gN G))), (aB, .inl (cI, 128, .inl (gN B))), (aH, .inl (cI, 1024, .inl (gN Hi))), (aS, .inl (cI, 128, .inl (gN Sv))), (aI, .inl (cI, 60, .inl (gN In))), (aL, .inl (cC, 40, .inl (gN Le))), (aT, .inl (cI, 360, .inl To))] s.heap := hP
  have hl : lv_has ls 4 [(0, .ref h), (1, .int (nI a)), (2, .int (nI g))] := hl
  have in_X7 : ∀ w ∈ wsX70, w ∈ wsX7_sameKey := by decide +kernel
  have fl_7 := hts (.fieldLink RX7 7 "DoorDialectModel" "g" "[I") (by decide +kernel)
  obtain ⟨g_b, g_k, g_0, g_1, g_2, g_e, g_d, g_t, g_y, g_s, g_h⟩ := id hG
  refine lv_iconst (v := nI 0) hx hb dX7_sameKey_0 (by decide) ?_
  refine lv_istore_n (lv' := [(3, .int (nI 0)), (0, .ref h), (1, .int (nI a)), (2, .int (nI g))]) hx hb dX7_sameKey_1 rfl hl (by decide) rfl (fun ls hl => ?_)
  have hloop1 : ∀ (nn : Nat) (k : Nat), (k ≤ G 2) → (∀ j, j < k → ¬ gFit G j a g = 2) → G 2 - k < nn → ∀ (ls : Array Slot), lv_has ls 4 [(3, .int (nI k)), (0, .ref h), (1, .int (nI a)), (2, .int (nI g))] → W p0 l e0 ({ frames := 1, cells := 0, slots := 0, locals := 23 }) s m0 args below meth c0 s.heap [] 0 0 Q (F0 m0 2 ls []) := by
    intro nn2
    induction nn2 with
    | zero => intro k hk hn hn0  _ _; exact absurd hn0 (Nat.not_lt_zero _)
    | succ nn2 ih2 =>
      intro k hk hn hn2  ls hl
      refine lv_iload_n hx hb dX7_sameKey_2 rfl (lv_at hl 0 rfl) ?_
      refine lv_aload_n hx hb dX7_sameKey_3 rfl (lv_at hl 1 rfl) ?_
      refine va_get (D := D) (ci := 9) (v := .ref aG) (C := RX7) (T := TX7) (N := 18) hx hb hts in_X7 hown hK.1 hP 0 rfl rfl 0 (by decide) fl_7 (fun _ h9 => h9) rfl dX7_sameKey_4 ?_
      refine lv_iconst (v := nI 2) hx hb dX7_sameKey_7 (by decide) ?_
      refine nv_gald (i := 2) hx hb hK.1 hP 1 0 rfl rfl (by first | omega | (simp only [gEndAt]; omega)) (by decide) dX7_sameKey_8 ?_
      refine nv_icmp_ge (tgt := 31) hx hb dX7_sameKey_9 (by decide) (by omega) (by omega) (fun c2 => ?_) (fun c2 => ?_)
      · refine lv_iconst (v := (-1)) hx hb dX7_sameKey_31 (by decide) ?_
        exact nv_retS hq hx hb hr hlocks (nar_i _) (by rw [show gSame G a g = G 2 from fd_none (fun j hj => hn j (by omega)), if_neg (by omega)]) dX7_sameKey_32
      · refine lv_aload_n hx hb dX7_sameKey_12 rfl (lv_at hl 1 rfl) ?_
        refine lv_iload_n hx hb dX7_sameKey_13 rfl (lv_at hl 0 rfl) ?_
        refine lv_iload_n hx hb dX7_sameKey_14 rfl (lv_at hl 2 rfl) ?_
        refine lv_iload_n hx hb dX7_sameKey_15 rfl (lv_at hl 3 rfl) ?_
        refine nv_kS (va_runV (As := [.int (nI k), .int (nI a), .int (nI g)]) (rest := []) ⟨hx, hb, hml, hown, hts⟩ (c_X7_fits l hG k a g (by omega) (by omega) (by omega)) (cwV 3 hts gX7_sameKey_X7_fits rfl rfl rfl (by decide +kernel) ⟨Nat.le_of_ble_eq_true rfl, Nat.le_of_ble_eq_true rfl⟩) (nv_pV hK hP (va_recv hK.1 hP (ci := 9) (q0 := 0) rfl rfl)) rfl rfl hl.1 rfl (lv_room (Nat.le_of_ble_eq_true rfl)) dX7_sameKey_16 ⟨Nat.zero_le _, Nat.zero_le _⟩) ?_
        refine lv_iconst (v := nI 2) hx hb dX7_sameKey_19 (by decide) ?_
        refine nv_icmp_ne (tgt := 25) hx hb dX7_sameKey_20 (by decide) (by first | decide | (unfold gFit; have := bI_le (G (118 + k) = a); have := bI_le (G (123 + k) = g); omega)) (by first | decide | (unfold gFit; have := bI_le (G (118 + k) = a); have := bI_le (G (123 + k) = g); omega)) (fun c3 => ?_) (fun c3 => ?_)
        · refine lv_iinc (v := nI (k + 1)) (lv' := [(3, .int (nI (k + 1))), (0, .ref h), (1, .int (nI a)), (2, .int (nI g))]) hx hb dX7_sameKey_25 hl (k := 0) rfl (by show nI _ + Int32.ofInt 1 = _; exact nI_add _ 1) (by decide) rfl (fun ls hl => ?_)
          refine lv_goto (tgt := 2) hx hb dX7_sameKey_28 (by decide) ?_
          exact ih2  (k + 1) ((by omega)) ((fun j hj => by rcases (show j < k ∨ j = k by omega) with h | h; exact hn j h; subst h; exact c3)) (by omega) ls (lv_sub hl [0, 1, 2, 3] rfl)
        · refine lv_iload_n hx hb dX7_sameKey_23 rfl (lv_at hl 0 rfl) ?_
          exact nv_retS hq hx hb hr hlocks (nar_i _) (by rw [show gSame G a g = k from fd_some hn c3 (by omega), if_pos (by omega)]) dX7_sameKey_24
  exact hloop1 _ 0 ((Nat.zero_le _)) ((fun j hj => absurd hj (Nat.not_lt_zero j))) (Nat.lt_succ_self _) ls (lv_sub hl [0, 1, 2, 3] rfl)

set_option maxHeartbeats 1000000 in
set_option maxRecDepth 100000 in
theorem c_X7_isAlike (l : Launch) {D : va_G} {cI cC : ClassId} {h aG aB aH aS aI aL aT : Nat} {G B Hi Sv In Le : Nat → Nat} {To : Nat → Int32} {ch hs ty wy ln th sp iw : Nat} {ea ra wd : Int32} {b : Nat} (hG : gWf b G) (a d : Nat) (ha : a < 8) (hd : d < 8) : Met l yX7_isAlike wsX7_isAlike ({ frames := 2, cells := 0, slots := 0, locals := 43 }) (va_Pc [.ref h, .int (nI a), .int (nI d)] (sPre D [(cI, .int), (cC, .char)] [] (fun H => va_P D vwCl [(h, .inr (9, [.ref aG, .ref aB, .ref aH, .int (nI ch), .ref aS, .int (nI hs), .ref aI, .int (nI ty), .int ea, .int ra, .int (nI wy), .int wd, .ref aL, .int (nI ln), .int (nI th), .int (nI sp), .int (nI iw), .ref aT])), (aG, .inl (cI, 128, .inl (gN G))), (aB, .inl (cI, 128, .inl (gN B))), (aH, .inl (cI, 1024, .inl (gN Hi))), (aS, .inl (cI, 128, .inl (gN Sv))), (aI, .inl (cI, 60, .inl (gN In))), (aL, .inl (cC, 40, .inl (gN Le))), (aT, .inl (cI, 360, .inl To))] H))) (sQ (nI (bI (gAlike G a d)))) 0 0 (fun _ => False) := by
  refine nv_met (cc := cX7_isAlike) (maxL := 3) (ret := (some .boolean)) (by decide) rfl (Nat.le_of_ble_eq_true rfl) ?_
  intro p0 e0 s m0 args below meth c0 Q hq hargs hnA hpre ls hl
  obtain ⟨hx, hb, hr, hts, hown, hlocks, hml⟩ := hnA
  obtain ⟨hP, hK⟩ := hpre
  have hown : s.vm.findClass RX7 = some m0.cls := hown
  have hP : va_P D vwCl [(h, .inr (9, [.ref aG, .ref aB, .ref aH, .int (nI ch), .ref aS, .int (nI hs), .ref aI, .int (nI ty), .int ea, .int ra, .int (nI wy), .int wd, .ref aL, .int (nI ln), .int (nI th), .int (nI sp), .int (nI iw), .ref aT])), (aG, .inl (cI, 128, .inl (gN G))), (aB, .inl (cI, 128, .inl (gN B))), (aH, .inl (cI, 1024, .inl (gN Hi))), (aS, .inl (cI, 128, .inl (gN Sv))), (aI, .inl (cI, 60, .inl (gN In))), (aL, .inl (cC, 40, .inl (gN Le))), (aT, .inl (cI, 360, .inl To))] s.heap := hP
  have hl : lv_has ls 3 [(0, .ref h), (1, .int (nI a)), (2, .int (nI d))] := hl
  have in_X7 : ∀ w ∈ wsX70, w ∈ wsX7_isAlike := by decide +kernel
  have fl_7 := hts (.fieldLink RX7 7 "DoorDialectModel" "g" "[I") (by decide +kernel)
  obtain ⟨g_b, g_k, g_0, g_1, g_2, g_e, g_d, g_t, g_y, g_s, g_h⟩ := id hG
  have e_a : gEnd G a < 2 ^ 31 := gEnd_lt hG ha
  have e_d : gEnd G d < 2 ^ 31 := gEnd_lt hG hd
  refine lv_aload_n hx hb dX7_isAlike_0 rfl (lv_at hl 0 rfl) ?_
  refine va_get (D := D) (ci := 9) (v := .ref aG) (C := RX7) (T := TX7) (N := 18) hx hb hts in_X7 hown hK.1 hP 0 rfl rfl 0 (by decide) fl_7 (fun _ h9 => h9) rfl dX7_isAlike_1 ?_
  refine lv_bipush (v := nI 40) hx hb dX7_isAlike_4 (by decide) ?_
  refine lv_iload_n hx hb dX7_isAlike_6 rfl (lv_at hl 1 rfl) ?_
  refine nv_iadd hx hb dX7_isAlike_7 ?_
  refine nv_gald (i := 40 + a) hx hb hK.1 hP 1 0 rfl rfl (by first | omega | (simp only [gEndAt]; omega)) (by decide) dX7_isAlike_8 ?_
  have q1 : G (40 + a) < 2 ^ 20 := hG.lt (k := 40 + a) (by omega)
  refine lv_aload_n hx hb dX7_isAlike_9 rfl (lv_at hl 0 rfl) ?_
  refine va_get (D := D) (ci := 9) (v := .ref aG) (C := RX7) (T := TX7) (N := 18) hx hb hts in_X7 hown hK.1 hP 0 rfl rfl 0 (by decide) fl_7 (fun _ h9 => h9) rfl dX7_isAlike_10 ?_
  refine lv_bipush (v := nI 40) hx hb dX7_isAlike_13 (by decide) ?_
  refine lv_iload_n hx hb dX7_isAlike_15 rfl (lv_at hl 2 rfl) ?_
  refine nv_iadd hx hb dX7_isAlike_16 ?_
  refine nv_gald (i := 40 + d) hx hb hK.1 hP 1 0 rfl rfl (by first | omega | (simp only [gEndAt]; omega)) (by decide) dX7_isAlike_17 ?_
  have q2 : G (40 + d) < 2 ^ 20 := hG.lt (k := 40 + d) (by omega)
  refine nv_icmp_ne (tgt := 59) hx hb dX7_isAlike_18 (by decide) (by omega) (by omega) (fun c3 => ?_) (fun c3 => ?_)
  · refine lv_iconst (v := nI 0) hx hb dX7_isAlike_59 (by decide) ?_
    exact nv_retS hq hx hb hr hlocks (nar_z (by omega)) (nv_in0 (fun q => c3 q.1)) dX7_isAlike_60
  · refine lv_aload_n hx hb dX7_isAlike_21 rfl (lv_at hl 0 rfl) ?_
    refine va_get (D := D) (ci := 9) (v := .ref aG) (C := RX7) (T := TX7) (N := 18) hx hb hts in_X7 hown hK.1 hP 0 rfl rfl 0 (by decide) fl_7 (fun _ h9 => h9) rfl dX7_isAlike_22 ?_
    refine lv_bipush (v := nI 48) hx hb dX7_isAlike_25 (by decide) ?_
    refine lv_iload_n hx hb dX7_isAlike_27 rfl (lv_at hl 1 rfl) ?_
    refine nv_iadd hx hb dX7_isAlike_28 ?_
    refine nv_gald (i := 48 + a) hx hb hK.1 hP 1 0 rfl rfl (by first | omega | (simp only [gEndAt]; omega)) (by decide) dX7_isAlike_29 ?_
    have q4 : G (48 + a) < 2 ^ 20 := hG.lt (k := 48 + a) (by omega)
    refine lv_aload_n hx hb dX7_isAlike_30 rfl (lv_at hl 0 rfl) ?_
    refine va_get (D := D) (ci := 9) (v := .ref aG) (C := RX7) (T := TX7) (N := 18) hx hb hts in_X7 hown hK.1 hP 0 rfl rfl 0 (by decide) fl_7 (fun _ h9 => h9) rfl dX7_isAlike_31 ?_
    refine lv_bipush (v := nI 48) hx hb dX7_isAlike_34 (by decide) ?_
    refine lv_iload_n hx hb dX7_isAlike_36 rfl (lv_at hl 2 rfl) ?_
    refine nv_iadd hx hb dX7_isAlike_37 ?_
    refine nv_gald (i := 48 + d) hx hb hK.1 hP 1 0 rfl rfl (by first | omega | (simp only [gEndAt]; omega)) (by decide) dX7_isAlike_38 ?_
    have q5 : G (48 + d) < 2 ^ 20 := hG.lt (k := 48 + d) (by omega)
    refine nv_icmp_ne (tgt := 59) hx hb dX7_isAlike_39 (by decide) (by omega) (by omega) (fun c6 => ?_) (fun c6 => ?_)
    · refine lv_iconst (v := nI 0) hx hb dX7_isAlike_59 (by decide) ?_
      exact nv_retS hq hx hb hr hlocks (nar_z (by omega)) (nv_in0 (fun q => c6 q.2.1)) dX7_isAlike_60
    · refine lv_aload_n hx hb dX7_isAlike_42 rfl (lv_at hl 0 rfl) ?_
      refine lv_iload_n hx hb dX7_isAlike_43 rfl (lv_at hl 1 rfl) ?_
      refine nv_kS (va_runV (As := [.int (nI a)]) (rest := []) ⟨hx, hb, hml, hown, hts⟩ (c_X7_endingOf l hG a (by omega)) (cwV 1 hts gX7_isAlike_X7_endingOf rfl rfl rfl (by decide +kernel) ⟨Nat.le_of_ble_eq_true rfl, Nat.le_of_ble_eq_true rfl⟩) (nv_pV hK hP (va_recv hK.1 hP (ci := 9) (q0 := 0) rfl rfl)) rfl rfl hl.1 rfl (lv_room (Nat.le_of_ble_eq_true rfl)) dX7_isAlike_44 ⟨Nat.zero_le _, Nat.zero_le _⟩) ?_
      refine lv_aload_n hx hb dX7_isAlike_47 rfl (lv_at hl 0 rfl) ?_
      refine lv_iload_n hx hb dX7_isAlike_48 rfl (lv_at hl 2 rfl) ?_
      refine nv_kS (va_runV (As := [.int (nI d)]) (rest := [.int (nI (gEnd G a))]) ⟨hx, hb, hml, hown, hts⟩ (c_X7_endingOf l hG d (by omega)) (cwV 1 hts gX7_isAlike_X7_endingOf rfl rfl rfl (by decide +kernel) ⟨Nat.le_of_ble_eq_true rfl, Nat.le_of_ble_eq_true rfl⟩) (nv_pV hK hP (va_recv hK.1 hP (ci := 9) (q0 := 0) rfl rfl)) rfl rfl hl.1 rfl (lv_room (Nat.le_of_ble_eq_true rfl)) dX7_isAlike_49 ⟨Nat.zero_le _, Nat.zero_le _⟩) ?_
      refine nv_icmp_ne (tgt := 59) hx hb dX7_isAlike_52 (by decide) (by omega) (by omega) (fun c7 => ?_) (fun c7 => ?_)
      · refine lv_iconst (v := nI 0) hx hb dX7_isAlike_59 (by decide) ?_
        exact nv_retS hq hx hb hr hlocks (nar_z (by omega)) (nv_in0 (fun q => c7 q.2.2)) dX7_isAlike_60
      · refine lv_iconst (v := nI 1) hx hb dX7_isAlike_55 (by decide) ?_
        refine lv_goto (tgt := 60) hx hb dX7_isAlike_56 (by decide) ?_
        exact nv_retS hq hx hb hr hlocks (nar_z (by omega)) (nv_in1 ⟨c3, c6, c7⟩) dX7_isAlike_60

set_option maxHeartbeats 1000000 in
set_option maxRecDepth 100000 in
theorem c_X7_oftenness (l : Launch) {D : va_G} {cI cC : ClassId} {h aG aB aH aS aI aL aT : Nat} {G B Hi Sv In Le : Nat → Nat} {To : Nat → Int32} {ch hs ty wy ln th sp iw : Nat} {ea ra wd : Int32} (x : Int32) : Met l yX7_oftenness wsX7_oftenness ({ frames := 0, cells := 0, slots := 0, locals := 0 }) (va_Pc [.ref h, .int x] (sPre D [(cI, .int), (cC, .char)] [] (fun H => va_P D vwCl [(h, .inr (9, [.ref aG, .ref aB, .ref aH, .int (nI ch), .ref aS, .int (nI hs), .ref aI, .int (nI ty), .int ea, .int ra, .int (nI wy), .int wd, .ref aL, .int (nI ln), .int (nI th), .int (nI sp), .int (nI iw), .ref aT])), (aG, .inl (cI, 128, .inl (gN G))), (aB, .inl (cI, 128, .inl (gN B))), (aH, .inl (cI, 1024, .inl (gN Hi))), (aS, .inl (cI, 128, .inl (gN Sv))), (aI, .inl (cI, 60, .inl (gN In))), (aL, .inl (cC, 40, .inl (gN Le))), (aT, .inl (cI, 360, .inl To))] H))) (sQ (nI (gOften G x))) 0 0 (fun _ => False) := by
  refine nv_met (cc := cX7_oftenness) (maxL := 4) (ret := (some .int)) (by decide) rfl (Nat.le_of_ble_eq_true rfl) ?_
  intro p0 e0 s m0 args below meth c0 Q hq hargs hnA hpre ls hl
  obtain ⟨hx, hb, hr, hts, hown, hlocks, hml⟩ := hnA
  obtain ⟨hP, hK⟩ := hpre
  have hown : s.vm.findClass RX7 = some m0.cls := hown
  have hP : va_P D vwCl [(h, .inr (9, [.ref aG, .ref aB, .ref aH, .int (nI ch), .ref aS, .int (nI hs), .ref aI, .int (nI ty), .int ea, .int ra, .int (nI wy), .int wd, .ref aL, .int (nI ln), .int (nI th), .int (nI sp), .int (nI iw), .ref aT])), (aG, .inl (cI, 128, .inl (gN G))), (aB, .inl (cI, 128, .inl (gN B))), (aH, .inl (cI, 1024, .inl (gN Hi))), (aS, .inl (cI, 128, .inl (gN Sv))), (aI, .inl (cI, 60, .inl (gN In))), (aL, .inl (cC, 40, .inl (gN Le))), (aT, .inl (cI, 360, .inl To))] s.heap := hP
  have hl : lv_has ls 4 [(0, .ref h), (1, .int x)] := hl
  have in_X7 : ∀ w ∈ wsX70, w ∈ wsX7_oftenness := by decide +kernel
  have fl_7 := hts (.fieldLink RX7 7 "DoorDialectModel" "g" "[I") (by decide +kernel)
  refine lv_iconst (v := nI 0) hx hb dX7_oftenness_0 (by decide) ?_
  refine lv_istore_n (lv' := [(2, .int (nI 0)), (0, .ref h), (1, .int x)]) hx hb dX7_oftenness_1 rfl hl (by decide) rfl (fun ls hl => ?_)
  refine lv_iconst (v := nI 0) hx hb dX7_oftenness_2 (by decide) ?_
  refine lv_istore_n (lv' := [(3, .int (nI 0)), (2, .int (nI 0)), (0, .ref h), (1, .int x)]) hx hb dX7_oftenness_3 rfl hl (by decide) rfl (fun ls hl => ?_)
  have hloop1 : ∀ (nn : Nat) (d : Nat), (d ≤ 24) → 24 - d < nn → ∀ (ls : Array Slot), lv_has ls 4 [(3, .int (nI d)), (2, .int (nI (sm (fun k => bI (nI (G (8 + k)) = x)) d))), (0, .ref h), (1, .int x)] → W p0 l e0 ({ frames := 0, cells := 0, slots := 0, locals := 0 }) s m0 args below meth c0 s.heap [] 0 0 Q (F0 m0 4 ls []) := by
    intro nn4
    induction nn4 with
    | zero => intro d hd hn0  _ _; exact absurd hn0 (Nat.not_lt_zero _)
    | succ nn4 ih4 =>
      intro d hd hn4  ls hl
      refine lv_iload_n hx hb dX7_oftenness_4 rfl (lv_at hl 0 rfl) ?_
      refine lv_bipush (v := nI 24) hx hb dX7_oftenness_5 (by decide) ?_
      refine nv_icmp_ge (tgt := 37) hx hb dX7_oftenness_7 (by decide) (by omega) (by omega) (fun c2 => ?_) (fun c2 => ?_)
      · refine lv_iload_n hx hb dX7_oftenness_37 rfl (lv_at hl 1 rfl) ?_
        exact nv_retS hq hx hb hr hlocks (nar_i _) (by rw [show d = 24 by omega] <;> rfl) dX7_oftenness_38
      · refine lv_iload_n hx hb dX7_oftenness_10 rfl (lv_at hl 1 rfl) ?_
        refine lv_aload_n hx hb dX7_oftenness_11 rfl (lv_at hl 2 rfl) ?_
        refine va_get (D := D) (ci := 9) (v := .ref aG) (C := RX7) (T := TX7) (N := 18) hx hb hts in_X7 hown hK.1 hP 0 rfl rfl 0 (by decide) fl_7 (fun _ h9 => h9) rfl dX7_oftenness_12 ?_
        refine lv_bipush (v := nI 8) hx hb dX7_oftenness_15 (by decide) ?_
        refine lv_iload_n hx hb dX7_oftenness_17 rfl (lv_at hl 0 rfl) ?_
        refine nv_iadd hx hb dX7_oftenness_18 ?_
        refine nv_gald (i := 8 + d) hx hb hK.1 hP 1 0 rfl rfl (by first | omega | (simp only [gEndAt]; omega)) (by decide) dX7_oftenness_19 ?_
        refine lv_iload_n hx hb dX7_oftenness_20 rfl (lv_at hl 3 rfl) ?_
        refine nv_jn (α := Nat) (fun r => W p0 l e0 ({ frames := 0, cells := 0, slots := 0, locals := 0 }) s m0 args below meth c0 s.heap [] 0 0 Q (F0 m0 29 ls (.int (nI r) :: [.int (nI (sm (fun k => bI (nI (G (8 + k)) = x)) d))]))) (bI (nI (G (8 + d)) = x)) (fun r er => ?_) (fun hJ => ?_)
        · subst er
          refine nv_iadd hx hb dX7_oftenness_29 ?_
          refine lv_istore_n (lv' := [(2, .int (nI (sm (fun k => bI (nI (G (8 + k)) = x)) d + (bI (nI (G (8 + d)) = x))))), (3, .int (nI d)), (0, .ref h), (1, .int x)]) hx hb dX7_oftenness_30 rfl hl (by decide) rfl (fun ls hl => ?_)
          refine lv_iinc (v := nI (d + 1)) (lv' := [(3, .int (nI (d + 1))), (2, .int (nI (sm (fun k => bI (nI (G (8 + k)) = x)) d + (bI (nI (G (8 + d)) = x))))), (0, .ref h), (1, .int x)]) hx hb dX7_oftenness_31 hl (k := 1) rfl (by show nI _ + Int32.ofInt 1 = _; exact nI_add _ 1) (by decide) rfl (fun ls hl => ?_)
          refine lv_goto (tgt := 4) hx hb dX7_oftenness_34 (by decide) ?_
          exact ih4  (d + 1) ((by omega)) (by omega) ls (lv_sub hl [0, 1, 2, 3] rfl)
        · refine lv_icmp_ne (tgt := 28) hx hb dX7_oftenness_21 (by decide) (fun c3 => ?_) (fun c3 => ?_)
          · refine lv_iconst (v := nI 0) hx hb dX7_oftenness_28 (by decide) ?_
            exact hJ _ (bI_f c3).symm
          · refine lv_iconst (v := nI 1) hx hb dX7_oftenness_24 (by decide) ?_
            refine lv_goto (tgt := 29) hx hb dX7_oftenness_25 (by decide) ?_
            exact hJ _ (bI_t c3).symm
  exact hloop1 _ 0 ((Nat.zero_le _)) (Nat.lt_succ_self _) ls (lv_sub hl [0, 1, 2, 3] rfl)

set_option maxHeartbeats 1000000 in
set_option maxRecDepth 100000 in
theorem c_X7_unlike (l : Launch) {D : va_G} {cI cC : ClassId} {h aG aB aH aS aI aL aT : Nat} {G B Hi Sv In Le : Nat → Nat} {To : Nat → Int32} {ch hs ty wy ln th sp iw : Nat} {ea ra wd : Int32}  : Met l yX7_unlike wsX7_unlike ({ frames := 1, cells := 0, slots := 0, locals := 23 }) (va_Pc [.ref h] (sPre D [(cI, .int), (cC, .char)] [] (fun H => va_P D vwCl [(h, .inr (9, [.ref aG, .ref aB, .ref aH, .int (nI ch), .ref aS, .int (nI hs), .ref aI, .int (nI ty), .int ea, .int ra, .int (nI wy), .int wd, .ref aL, .int (nI ln), .int (nI th), .int (nI sp), .int (nI iw), .ref aT])), (aG, .inl (cI, 128, .inl (gN G))), (aB, .inl (cI, 128, .inl (gN B))), (aH, .inl (cI, 1024, .inl (gN Hi))), (aS, .inl (cI, 128, .inl (gN Sv))), (aI, .inl (cI, 60, .inl (gN In))), (aL, .inl (cC, 40, .inl (gN Le))), (aT, .inl (cI, 360, .inl To))] H))) (sQ (nI (gUnlike G))) 0 0 (fun _ => False) := by
  refine nv_met (cc := cX7_unlike) (maxL := 3) (ret := (some .int)) (by decide) rfl (Nat.le_of_ble_eq_true rfl) ?_
  intro p0 e0 s m0 args below meth c0 Q hq hargs hnA hpre ls hl
  obtain ⟨hx, hb, hr, hts, hown, hlocks, hml⟩ := hnA
  obtain ⟨hP, hK⟩ := hpre
  have hown : s.vm.findClass RX7 = some m0.cls := hown
  have hP : va_P D vwCl [(h, .inr (9, [.ref aG, .ref aB, .ref aH, .int (nI ch), .ref aS, .int (nI hs), .ref aI, .int (nI ty), .int ea, .int ra, .int (nI wy), .int wd, .ref aL, .int (nI ln), .int (nI th), .int (nI sp), .int (nI iw), .ref aT])), (aG, .inl (cI, 128, .inl (gN G))), (aB, .inl (cI, 128, .inl (gN B))), (aH, .inl (cI, 1024, .inl (gN Hi))), (aS, .inl (cI, 128, .inl (gN Sv))), (aI, .inl (cI, 60, .inl (gN In))), (aL, .inl (cC, 40, .inl (gN Le))), (aT, .inl (cI, 360, .inl To))] s.heap := hP
  have hl : lv_has ls 3 [(0, .ref h)] := hl
  refine lv_iconst (v := nI 0) hx hb dX7_unlike_0 (by decide) ?_
  refine lv_istore_n (lv' := [(1, .int (nI 0)), (0, .ref h)]) hx hb dX7_unlike_1 rfl hl (by decide) rfl (fun ls hl => ?_)
  refine lv_iconst (v := nI 0) hx hb dX7_unlike_2 (by decide) ?_
  refine lv_istore_n (lv' := [(2, .int (nI 0)), (1, .int (nI 0)), (0, .ref h)]) hx hb dX7_unlike_3 rfl hl (by decide) rfl (fun ls hl => ?_)
  have hloop1 : ∀ (nn : Nat) (x : Nat), (x ≤ 26) → 26 - x < nn → ∀ (ls : Array Slot), lv_has ls 3 [(2, .int (nI x)), (1, .int (nI (sm (fun x => bI (0 < gOften G (nI x))) x))), (0, .ref h)] → W p0 l e0 ({ frames := 1, cells := 0, slots := 0, locals := 23 }) s m0 args below meth c0 s.heap [] 0 0 Q (F0 m0 4 ls []) := by
    intro nn4
    induction nn4 with
    | zero => intro x hd hn0  _ _; exact absurd hn0 (Nat.not_lt_zero _)
    | succ nn4 ih4 =>
      intro x hd hn4  ls hl
      refine lv_iload_n hx hb dX7_unlike_4 rfl (lv_at hl 0 rfl) ?_
      refine lv_bipush (v := nI 26) hx hb dX7_unlike_5 (by decide) ?_
      refine nv_icmp_ge (tgt := 32) hx hb dX7_unlike_7 (by decide) (by omega) (by omega) (fun c2 => ?_) (fun c2 => ?_)
      · refine lv_iload_n hx hb dX7_unlike_32 rfl (lv_at hl 1 rfl) ?_
        exact nv_retS hq hx hb hr hlocks (nar_i _) (by rw [show x = 26 by omega] <;> rfl) dX7_unlike_33
      · refine lv_iload_n hx hb dX7_unlike_10 rfl (lv_at hl 1 rfl) ?_
        refine lv_aload_n hx hb dX7_unlike_11 rfl (lv_at hl 2 rfl) ?_
        refine lv_iload_n hx hb dX7_unlike_12 rfl (lv_at hl 0 rfl) ?_
        refine nv_kS (va_runV (As := [.int (nI x)]) (rest := [.int (nI (sm (fun x => bI (0 < gOften G (nI x))) x))]) ⟨hx, hb, hml, hown, hts⟩ (c_X7_oftenness l (nI (x))) (cwV 1 hts gX7_unlike_X7_oftenness rfl rfl rfl (by decide +kernel) ⟨Nat.le_of_ble_eq_true rfl, Nat.le_of_ble_eq_true rfl⟩) (nv_pV hK hP (va_recv hK.1 hP (ci := 9) (q0 := 0) rfl rfl)) rfl rfl hl.1 rfl (lv_room (Nat.le_of_ble_eq_true rfl)) dX7_unlike_13 ⟨Nat.zero_le _, Nat.zero_le _⟩) ?_
        refine nv_jn (α := Nat) (fun r => W p0 l e0 ({ frames := 1, cells := 0, slots := 0, locals := 23 }) s m0 args below meth c0 s.heap [] 0 0 Q (F0 m0 24 ls (.int (nI r) :: [.int (nI (sm (fun x => bI (0 < gOften G (nI x))) x))]))) ((if gOften G (nI (x)) = 0 then 0 else 1)) (fun r er => ?_) (fun hJ => ?_)
        · subst er
          refine nv_to (bI (0 < gOften G (nI x))) (nv_pos01 _) ?_
          refine nv_iadd hx hb dX7_unlike_24 ?_
          refine lv_istore_n (lv' := [(1, .int (nI (sm (fun x => bI (0 < gOften G (nI x))) x + (bI (0 < gOften G (nI x)))))), (2, .int (nI x)), (0, .ref h)]) hx hb dX7_unlike_25 rfl hl (by decide) rfl (fun ls hl => ?_)
          refine lv_iinc (v := nI (x + 1)) (lv' := [(2, .int (nI (x + 1))), (1, .int (nI (sm (fun x => bI (0 < gOften G (nI x))) x + (bI (0 < gOften G (nI x)))))), (0, .ref h)]) hx hb dX7_unlike_26 hl (k := 1) rfl (by show nI _ + Int32.ofInt 1 = _; exact nI_add _ 1) (by decide) rfl (fun ls hl => ?_)
          refine lv_goto (tgt := 4) hx hb dX7_unlike_29 (by decide) ?_
          exact ih4  (x + 1) ((by omega)) (by omega) ls (lv_sub hl [0, 1, 2] rfl)
        · refine nv_if_le (tgt := 23) hx hb dX7_unlike_16 (by decide) (by exact gOften_lt G _) (fun c3 => ?_) (fun c3 => ?_)
          · refine lv_iconst (v := nI 0) hx hb dX7_unlike_23 (by decide) ?_
            exact hJ _ (if_pos c3).symm
          · refine lv_iconst (v := nI 1) hx hb dX7_unlike_19 (by decide) ?_
            refine lv_goto (tgt := 24) hx hb dX7_unlike_20 (by decide) ?_
            exact hJ _ (if_neg c3).symm
  exact hloop1 _ 0 ((Nat.zero_le _)) (Nat.lt_succ_self _) ls (lv_sub hl [0, 1, 2] rfl)

set_option maxHeartbeats 1000000 in
set_option maxRecDepth 100000 in
theorem c_X7_agreement (l : Launch) {D : va_G} {cI cC : ClassId} {h aG aB aH aS aI aL aT : Nat} {G B Hi Sv In Le : Nat → Nat} {To : Nat → Int32} {ch hs ty wy ln th sp iw : Nat} {ea ra wd : Int32} {b : Nat} (hG : gWf b G) (d g n c : Nat) (hd : d < 8) (hg : g < 2 ^ 31) (hn : n < 2 ^ 31) (hc : c < 2 ^ 31) : Met l yX7_agreement wsX7_agreement ({ frames := 1, cells := 0, slots := 0, locals := 21 }) (va_Pc [.ref h, .int (nI d), .int (nI g), .int (nI n), .int (nI c)] (sPre D [(cI, .int), (cC, .char)] [] (fun H => va_P D vwCl [(h, .inr (9, [.ref aG, .ref aB, .ref aH, .int (nI ch), .ref aS, .int (nI hs), .ref aI, .int (nI ty), .int ea, .int ra, .int (nI wy), .int wd, .ref aL, .int (nI ln), .int (nI th), .int (nI sp), .int (nI iw), .ref aT])), (aG, .inl (cI, 128, .inl (gN G))), (aB, .inl (cI, 128, .inl (gN B))), (aH, .inl (cI, 1024, .inl (gN Hi))), (aS, .inl (cI, 128, .inl (gN Sv))), (aI, .inl (cI, 60, .inl (gN In))), (aL, .inl (cC, 40, .inl (gN Le))), (aT, .inl (cI, 360, .inl To))] H))) (sQ (nI (gAgree G d g n c))) 0 0 (fun _ => False) := by
  refine nv_met (cc := cX7_agreement) (maxL := 5) (ret := (some .int)) (by decide) rfl (Nat.le_of_ble_eq_true rfl) ?_
  intro p0 e0 s m0 args below meth c0 Q hq hargs hnA hpre ls hl
  obtain ⟨hx, hb, hr, hts, hown, hlocks, hml⟩ := hnA
  obtain ⟨hP, hK⟩ := hpre
  have hown : s.vm.findClass RX7 = some m0.cls := hown
  have hP : va_P D vwCl [(h, .inr (9, [.ref aG, .ref aB, .ref aH, .int (nI ch), .ref aS, .int (nI hs), .ref aI, .int (nI ty), .int ea, .int ra, .int (nI wy), .int wd, .ref aL, .int (nI ln), .int (nI th), .int (nI sp), .int (nI iw), .ref aT])), (aG, .inl (cI, 128, .inl (gN G))), (aB, .inl (cI, 128, .inl (gN B))), (aH, .inl (cI, 1024, .inl (gN Hi))), (aS, .inl (cI, 128, .inl (gN Sv))), (aI, .inl (cI, 60, .inl (gN In))), (aL, .inl (cC, 40, .inl (gN Le))), (aT, .inl (cI, 360, .inl To))] s.heap := hP
  have hl : lv_has ls 5 [(0, .ref h), (1, .int (nI d)), (2, .int (nI g)), (3, .int (nI n)), (4, .int (nI c))] := hl
  have in_X7 : ∀ w ∈ wsX70, w ∈ wsX7_agreement := by decide +kernel
  have fl_7 := hts (.fieldLink RX7 7 "DoorDialectModel" "g" "[I") (by decide +kernel)
  obtain ⟨g_b, g_k, g_0, g_1, g_2, g_e, g_d, g_t, g_y, g_s, g_h⟩ := id hG
  obtain ⟨w_a, w_g, w_n, w_s, w_w, w_l, w_o, w_x, w_y, w_1, w_2, w_3, w_4⟩ := hG.door hd
  have hcc := gWf_case hG hd
  refine lv_aload_n hx hb dX7_agreement_0 rfl (lv_at hl 0 rfl) ?_
  refine va_get (D := D) (ci := 9) (v := .ref aG) (C := RX7) (T := TX7) (N := 18) hx hb hts in_X7 hown hK.1 hP 0 rfl rfl 0 (by decide) fl_7 (fun _ h9 => h9) rfl dX7_agreement_1 ?_
  refine lv_bipush (v := nI 40) hx hb dX7_agreement_4 (by decide) ?_
  refine lv_iload_n hx hb dX7_agreement_6 rfl (lv_at hl 1 rfl) ?_
  refine nv_iadd hx hb dX7_agreement_7 ?_
  refine nv_gald (i := 40 + d) hx hb hK.1 hP 1 0 rfl rfl (by first | omega | (simp only [gEndAt]; omega)) (by decide) dX7_agreement_8 ?_
  have q1 : G (40 + d) < 2 ^ 20 := hG.lt (k := 40 + d) (by omega)
  refine lv_iload_n hx hb dX7_agreement_9 rfl (lv_at hl 2 rfl) ?_
  refine nv_jn (α := Nat) (fun r => W p0 l e0 ({ frames := 1, cells := 0, slots := 0, locals := 21 }) s m0 args below meth c0 s.heap [] 0 0 Q (F0 m0 18 ls (.int (nI r) :: []))) (bI (G (40 + d) = g)) (fun r er => ?_) (fun hJ => ?_)
  · subst er
    refine lv_aload_n hx hb dX7_agreement_18 rfl (lv_at hl 0 rfl) ?_
    refine va_get (D := D) (ci := 9) (v := .ref aG) (C := RX7) (T := TX7) (N := 18) hx hb hts in_X7 hown hK.1 hP 0 rfl rfl 0 (by decide) fl_7 (fun _ h9 => h9) rfl dX7_agreement_19 ?_
    refine lv_bipush (v := nI 48) hx hb dX7_agreement_22 (by decide) ?_
    refine lv_iload_n hx hb dX7_agreement_24 rfl (lv_at hl 1 rfl) ?_
    refine nv_iadd hx hb dX7_agreement_25 ?_
    refine nv_gald (i := 48 + d) hx hb hK.1 hP 1 0 rfl rfl (by first | omega | (simp only [gEndAt]; omega)) (by decide) dX7_agreement_26 ?_
    have q3 : G (48 + d) < 2 ^ 20 := hG.lt (k := 48 + d) (by omega)
    refine lv_iload_n hx hb dX7_agreement_27 rfl (lv_at hl 3 rfl) ?_
    refine nv_jn (α := Nat) (fun r => W p0 l e0 ({ frames := 1, cells := 0, slots := 0, locals := 21 }) s m0 args below meth c0 s.heap [] 0 0 Q (F0 m0 36 ls (.int (nI r) :: [.int (nI (bI (G (40 + d) = g)))]))) (bI (G (48 + d) = n)) (fun r er => ?_) (fun hJ => ?_)
    · subst er
      refine nv_iadd hx hb dX7_agreement_36 ?_
      refine lv_aload_n hx hb dX7_agreement_37 rfl (lv_at hl 0 rfl) ?_
      refine lv_iload_n hx hb dX7_agreement_38 rfl (lv_at hl 1 rfl) ?_
      refine nv_kS (va_runV (As := [.int (nI d)]) (rest := [.int (nI (bI (G (40 + d) = g) + (bI (G (48 + d) = n))))]) ⟨hx, hb, hml, hown, hts⟩ (c_X7_caseOf l d (by omega) (by omega)) (cwV 1 hts gX7_agreement_X7_caseOf rfl rfl rfl (by decide +kernel) ⟨Nat.le_of_ble_eq_true rfl, Nat.le_of_ble_eq_true rfl⟩) (nv_pV hK hP (va_recv hK.1 hP (ci := 9) (q0 := 0) rfl rfl)) rfl rfl hl.1 rfl (lv_room (Nat.le_of_ble_eq_true rfl)) dX7_agreement_39 ⟨Nat.zero_le _, Nat.zero_le _⟩) ?_
      refine lv_iload hx hb dX7_agreement_42 (lv_at hl 4 rfl) ?_
      refine nv_jn (α := Nat) (fun r => W p0 l e0 ({ frames := 1, cells := 0, slots := 0, locals := 21 }) s m0 args below meth c0 s.heap [] 0 0 Q (F0 m0 52 ls (.int (nI r) :: [.int (nI (bI (G (40 + d) = g) + (bI (G (48 + d) = n))))]))) (bI (gCase G d = c)) (fun r er => ?_) (fun hJ => ?_)
      · subst er
        refine nv_iadd hx hb dX7_agreement_52 ?_
        exact nv_retS hq hx hb hr hlocks (nar_i _) (rfl) dX7_agreement_53
      · refine nv_icmp_ne (tgt := 51) hx hb dX7_agreement_44 (by decide) (by omega) (by omega) (fun c5 => ?_) (fun c5 => ?_)
        · refine lv_iconst (v := nI 0) hx hb dX7_agreement_51 (by decide) ?_
          exact hJ _ (bI_f c5).symm
        · refine lv_iconst (v := nI 1) hx hb dX7_agreement_47 (by decide) ?_
          refine lv_goto (tgt := 52) hx hb dX7_agreement_48 (by decide) ?_
          exact hJ _ (bI_t c5).symm
    · refine nv_icmp_ne (tgt := 35) hx hb dX7_agreement_28 (by decide) (by omega) (by omega) (fun c4 => ?_) (fun c4 => ?_)
      · refine lv_iconst (v := nI 0) hx hb dX7_agreement_35 (by decide) ?_
        exact hJ _ (bI_f c4).symm
      · refine lv_iconst (v := nI 1) hx hb dX7_agreement_31 (by decide) ?_
        refine lv_goto (tgt := 36) hx hb dX7_agreement_32 (by decide) ?_
        exact hJ _ (bI_t c4).symm
  · refine nv_icmp_ne (tgt := 17) hx hb dX7_agreement_10 (by decide) (by omega) (by omega) (fun c2 => ?_) (fun c2 => ?_)
    · refine lv_iconst (v := nI 0) hx hb dX7_agreement_17 (by decide) ?_
      exact hJ _ (bI_f c2).symm
    · refine lv_iconst (v := nI 1) hx hb dX7_agreement_13 (by decide) ?_
      refine lv_goto (tgt := 18) hx hb dX7_agreement_14 (by decide) ?_
      exact hJ _ (bI_t c2).symm

set_option maxHeartbeats 1000000 in
set_option maxRecDepth 100000 in
theorem c_X7_bits (l : Launch) {D : va_G} {cI cC : ClassId} (z : Nat) (hz : z < 2 ^ 31) : Met l yX7_bits wsX7_bits ({ frames := 0, cells := 0, slots := 0, locals := 0 }) (va_Pc [.int (nI z)] (sPre D [(cI, .int), (cC, .char)] [] (fun _ => True))) (sQ (nI (gBits z))) 0 0 (fun _ => False) := by
  refine nv_met (cc := cX7_bits) (maxL := 3) (ret := (some .int)) (by decide) rfl (Nat.le_of_ble_eq_true rfl) ?_
  intro p0 e0 s m0 args below meth c0 Q hq hargs hnA hpre ls hl
  obtain ⟨hx, hb, hr, hts, hown, hlocks, hml⟩ := hnA
  obtain ⟨hP, hK⟩ := hpre
  have hown : s.vm.findClass RX7 = some m0.cls := hown
  have hl : lv_has ls 3 [(0, .int (nI z))] := hl
  refine lv_iconst (v := nI 0) hx hb dX7_bits_0 (by decide) ?_
  refine lv_istore_n (lv' := [(1, .int (nI 0)), (0, .int (nI z))]) hx hb dX7_bits_1 rfl hl (by decide) rfl (fun ls hl => ?_)
  refine lv_iconst (v := nI 0) hx hb dX7_bits_2 (by decide) ?_
  refine lv_istore_n (lv' := [(2, .int (nI 0)), (1, .int (nI 0)), (0, .int (nI z))]) hx hb dX7_bits_3 rfl hl (by decide) rfl (fun ls hl => ?_)
  have hloop1 : ∀ (nn : Nat) (k : Nat), (k ≤ 6) → 6 - k < nn → ∀ (ls : Array Slot), lv_has ls 3 [(2, .int (nI k)), (1, .int (nI (sm (fun k => z >>> k &&& 1) k))), (0, .int (nI z))] → W p0 l e0 ({ frames := 0, cells := 0, slots := 0, locals := 0 }) s m0 args below meth c0 s.heap [] 0 0 Q (F0 m0 4 ls []) := by
    intro nn4
    induction nn4 with
    | zero => intro k hk hn0  _ _; exact absurd hn0 (Nat.not_lt_zero _)
    | succ nn4 ih4 =>
      intro k hk hn4  ls hl
      refine lv_iload_n hx hb dX7_bits_4 rfl (lv_at hl 0 rfl) ?_
      refine lv_bipush (v := nI 6) hx hb dX7_bits_5 (by decide) ?_
      refine nv_icmp_ge (tgt := 24) hx hb dX7_bits_7 (by decide) (by omega) (by omega) (fun c2 => ?_) (fun c2 => ?_)
      · refine lv_iload_n hx hb dX7_bits_24 rfl (lv_at hl 1 rfl) ?_
        exact nv_retS hq hx hb hr hlocks (nar_i _) (by rw [show k = 6 by omega] <;> rfl) dX7_bits_25
      · refine lv_iload_n hx hb dX7_bits_10 rfl (lv_at hl 1 rfl) ?_
        refine lv_iload_n hx hb dX7_bits_11 rfl (lv_at hl 2 rfl) ?_
        refine lv_iload_n hx hb dX7_bits_12 rfl (lv_at hl 0 rfl) ?_
        refine lv_ishr hx hb dX7_bits_13 ?_
        refine nv_to (z >>> k) (nb_shr (by omega) (by omega)) ?_
        refine lv_iconst (v := nI 1) hx hb dX7_bits_14 (by decide) ?_
        refine lv_iand hx hb dX7_bits_15 ?_
        refine nv_to (z >>> k &&& 1) (nb_and1 (nv_shlt (by omega))) ?_
        refine nv_iadd hx hb dX7_bits_16 ?_
        refine lv_istore_n (lv' := [(1, .int (nI (sm (fun k => z >>> k &&& 1) k + (z >>> k &&& 1)))), (2, .int (nI k)), (0, .int (nI z))]) hx hb dX7_bits_17 rfl hl (by decide) rfl (fun ls hl => ?_)
        refine lv_iinc (v := nI (k + 1)) (lv' := [(2, .int (nI (k + 1))), (1, .int (nI (sm (fun k => z >>> k &&& 1) k + (z >>> k &&& 1)))), (0, .int (nI z))]) hx hb dX7_bits_18 hl (k := 1) rfl (by show nI _ + Int32.ofInt 1 = _; exact nI_add _ 1) (by decide) rfl (fun ls hl => ?_)
        refine lv_goto (tgt := 4) hx hb dX7_bits_21 (by decide) ?_
        exact ih4  (k + 1) ((by omega)) (by omega) ls (lv_sub hl [0, 1, 2] rfl)
  exact hloop1 _ 0 ((Nat.zero_le _)) (Nat.lt_succ_self _) ls (lv_sub hl [0, 1, 2] rfl)
