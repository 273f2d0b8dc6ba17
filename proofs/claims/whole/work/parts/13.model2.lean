theorem nv_b1shl {a k : Nat} (h : k ≤ 5) : nI (a &&& 1) <<< (nI k &&& 31) = nI ((a &&& 1) <<< k) := by
  refine nb_shl (by omega) ?_
  have h1 : a &&& 1 ≤ 1 := by rw [Nat.and_one_is_mod]; omega
  have h2 : 2 ^ k ≤ 2 ^ 5 := Nat.pow_le_pow_right (by decide) h
  exact Nat.lt_of_le_of_lt (Nat.mul_le_mul h1 h2) (by decide)
theorem b1shl_lt {a k : Nat} (h : k ≤ 5) : (a &&& 1) <<< k < 2 ^ 6 := by
  rw [Nat.shiftLeft_eq]
  have h1 : a &&& 1 ≤ 1 := by rw [Nat.and_one_is_mod]; omega
  have h2 : 2 ^ k ≤ 2 ^ 5 := Nat.pow_le_pow_right (by decide) h
  exact Nat.lt_of_le_of_lt (Nat.mul_le_mul h1 h2) (by decide)
theorem gNx_lt {b : Nat} {G : Nat → Nat} (hG : gWf b G) {z : Nat} (hz : z < 2 ^ 6) (x : Int32) : ∀ d, d ≤ 8 → gNx G z x d < 2 ^ 6
  | 0, _ => hz
  | d + 1, h => by
    have h1 := gNx_lt hG hz x d (by omega)
    have h2 := hG.door (d := d) (by omega)
    unfold gNx
    split
    · exact Nat.or_lt_two_pow (Nat.or_lt_two_pow h1 (b1shl_lt h2.2.2.2.2.2.2.2.2.1)) (b1shl_lt h2.2.2.2.2.2.2.2.1)
    · exact h1
theorem gIt_lt {b : Nat} {G : Nat → Nat} (hG : gWf b G) {z : Nat} (hz : z < 2 ^ 6) (x : Int32) : ∀ n, gIt G x z n < 2 ^ 6
  | 0 => hz
  | n + 1 => gNx_lt hG (gIt_lt hG hz x n) x _ hG.2.2.1
theorem shl1_lt {r : Nat} (h : r < 6) : 1 <<< r < 2 ^ 6 := by
  rw [Nat.shiftLeft_eq, Nat.one_mul]; exact Nat.pow_lt_pow_right (by decide) h
theorem gRw_lt {b : Nat} {G : Nat → Nat} (hG : gWf b G) {r : Nat} (h : r < 6) (x : Int32) : gRw G r x < 2 ^ 6 := gIt_lt hG (shl1_lt h) x 6
theorem gBits_le (z : Nat) : gBits z ≤ 6 := by
  have h := sm_le (f := fun k => z >>> k &&& 1) (b := 1) (n := 6) (fun k _ => by show z >>> k &&& 1 ≤ 1; rw [Nat.and_one_is_mod]; omega)
  unfold gBits; omega
theorem gBm_le (G : Nat → Nat) (r : Nat) : ∀ d, gBm G r d ≤ 6
  | 0 => gBits_le _
  | d + 1 => by
    unfold gBm
    split
    · exact gBm_le G r d
    · exact gBits_le _
theorem nv_rank {a b o d : Nat} (ha : a < 2 ^ 20) (hb : b < 2 ^ 20) : (if 0 < nI b - nI a then 1 else (if nI b - nI a = 0 then (if d ≤ o then 0 else 1) else 0)) = bI (a < b ∨ (b = a ∧ o < d)) := by
  have h := pk_sub_toInt (a := b) (b := a) (by omega) (by omega)
  have e1 : (0 < nI b - nI a) ↔ a < b := by
    rw [Int32.lt_iff_toInt_lt, h, Int32.toInt_zero]; omega
  have e2 : (nI b - nI a = 0) ↔ b = a := by
    rw [← Int32.toInt_inj, h, Int32.toInt_zero]; omega
  by_cases c1 : a < b
  · rw [if_pos (e1.mpr c1), bI_t (Or.inl c1)]
  · rw [if_neg (fun q => c1 (e1.mp q))]
    by_cases c2 : b = a
    · rw [if_pos (e2.mpr c2)]
      by_cases c3 : d ≤ o
      · rw [if_pos c3, bI_f (by omega)]
      · rw [if_neg c3, bI_t (Or.inr ⟨c2, by omega⟩)]
    · rw [if_neg (fun q => c2 (e2.mp q)), bI_f (by omega)]

set_option maxHeartbeats 1000000 in
set_option maxRecDepth 100000 in
theorem c_X7_next (l : Launch) {D : va_G} {cI cC : ClassId} {h aG aB aH aS aI aL aT : Nat} {G B Hi Sv In Le : Nat → Nat} {To : Nat → Int32} {ch hs ty wy ln th sp iw : Nat} {ea ra wd : Int32} {b : Nat} (hG : gWf b G) (z : Nat) (x : Int32) (hz : z < 2 ^ 6) : Met l yX7_next wsX7_next ({ frames := 0, cells := 0, slots := 0, locals := 0 }) (va_Pc [.ref h, .int (nI z), .int x] (sPre D [(cI, .int), (cC, .char)] [] (fun H => va_P D vwCl [(h, .inr (9, [.ref aG, .ref aB, .ref aH, .int (nI ch), .ref aS, .int (nI hs), .ref aI, .int (nI ty), .int ea, .int ra, .int (nI wy), .int wd, .ref aL, .int (nI ln), .int (nI th), .int (nI sp), .int (nI iw), .ref aT])), (aG, .inl (cI, 128, .inl (gN G))), (aB, .inl (cI, 128, .inl (gN B))), (aH, .inl (cI, 1024, .inl (gN Hi))), (aS, .inl (cI, 128, .inl (gN Sv))), (aI, .inl (cI, 60, .inl (gN In))), (aL, .inl (cC, 40, .inl (gN Le))), (aT, .inl (cI, 360, .inl To))] H))) (sQ (nI (gNx G z x (G 0)))) 0 0 (fun _ => False) := by
  refine nv_met (cc := cX7_next) (maxL := 5) (ret := (some .int)) (by decide) rfl (Nat.le_of_ble_eq_true rfl) ?_
  intro p0 e0 s m0 args below meth c0 Q hq hargs hnA hpre ls hl
  obtain ⟨hx, hb, hr, hts, hown, hlocks, hml⟩ := hnA
  obtain ⟨hP, hK⟩ := hpre
  have hown : s.vm.findClass RX7 = some m0.cls := hown
  have hP : va_P D vwCl [(h, .inr (9, [.ref aG, .ref aB, .ref aH, .int (nI ch), .ref aS, .int (nI hs), .ref aI, .int (nI ty), .int ea, .int ra, .int (nI wy), .int wd, .ref aL, .int (nI ln), .int (nI th), .int (nI sp), .int (nI iw), .ref aT])), (aG, .inl (cI, 128, .inl (gN G))), (aB, .inl (cI, 128, .inl (gN B))), (aH, .inl (cI, 1024, .inl (gN Hi))), (aS, .inl (cI, 128, .inl (gN Sv))), (aI, .inl (cI, 60, .inl (gN In))), (aL, .inl (cC, 40, .inl (gN Le))), (aT, .inl (cI, 360, .inl To))] s.heap := hP
  have hl : lv_has ls 5 [(0, .ref h), (1, .int (nI z)), (2, .int x)] := hl
  have in_X7 : ∀ w ∈ wsX70, w ∈ wsX7_next := by decide +kernel
  have fl_7 := hts (.fieldLink RX7 7 "DoorDialectModel" "g" "[I") (by decide +kernel)
  obtain ⟨g_b, g_k, g_0, g_1, g_2, g_e, g_d, g_t, g_y, g_s, g_h⟩ := id hG
  refine lv_iload_n hx hb dX7_next_0 rfl (lv_at hl 1 rfl) ?_
  refine lv_istore_n (lv' := [(3, .int (nI z)), (0, .ref h), (1, .int (nI z)), (2, .int x)]) hx hb dX7_next_1 rfl hl (by decide) rfl (fun ls hl => ?_)
  refine lv_iconst (v := nI 0) hx hb dX7_next_2 (by decide) ?_
  refine lv_istore (lv' := [(4, .int (nI 0)), (3, .int (nI z)), (0, .ref h), (1, .int (nI z)), (2, .int x)]) hx hb dX7_next_3 hl (by decide) rfl (fun ls hl => ?_)
  have hloop1 : ∀ (nn : Nat) (d : Nat) (t : Nat), (d ≤ G 0) → (t = gNx G z x d) → G 0 - d < nn → ∀ (ls : Array Slot), lv_has ls 5 [(4, .int (nI d)), (3, .int (nI t)), (0, .ref h), (1, .int (nI z)), (2, .int x)] → W p0 l e0 ({ frames := 0, cells := 0, slots := 0, locals := 0 }) s m0 args below meth c0 s.heap [] 0 0 Q (F0 m0 5 ls []) := by
    intro nn5
    induction nn5 with
    | zero => intro d t hd ht hn0  _ _; exact absurd hn0 (Nat.not_lt_zero _)
    | succ nn5 ih5 =>
      intro d t hd ht hn5  ls hl
      refine lv_iload hx hb dX7_next_5 (lv_at hl 0 rfl) ?_
      refine lv_aload_n hx hb dX7_next_7 rfl (lv_at hl 2 rfl) ?_
      refine va_get (D := D) (ci := 9) (v := .ref aG) (C := RX7) (T := TX7) (N := 18) hx hb hts in_X7 hown hK.1 hP 0 rfl rfl 0 (by decide) fl_7 (fun _ h9 => h9) rfl dX7_next_8 ?_
      refine lv_iconst (v := nI 0) hx hb dX7_next_11 (by decide) ?_
      refine nv_gald (i := 0) hx hb hK.1 hP 1 0 rfl rfl (by first | omega | (simp only [gEndAt]; omega)) (by decide) dX7_next_12 ?_
      have q2 : G 0 < 2 ^ 20 := hG.lt (k := 0) (by omega)
      refine nv_icmp_ge (tgt := 98) hx hb dX7_next_13 (by decide) (by omega) (by omega) (fun c3 => ?_) (fun c3 => ?_)
      · refine lv_iload_n hx hb dX7_next_98 rfl (lv_at hl 1 rfl) ?_
        exact nv_retS hq hx hb hr hlocks (nar_i _) (by rw [ht, show d = G 0 by omega]) dX7_next_99
      · obtain ⟨w_a, w_g, w_n, w_s, w_w, w_l, w_o, w_x, w_y, w_1, w_2, w_3, w_4⟩ := hG.door (d := d) (by omega)
        refine lv_aload_n hx hb dX7_next_16 rfl (lv_at hl 2 rfl) ?_
        refine va_get (D := D) (ci := 9) (v := .ref aG) (C := RX7) (T := TX7) (N := 18) hx hb hts in_X7 hown hK.1 hP 0 rfl rfl 0 (by decide) fl_7 (fun _ h9 => h9) rfl dX7_next_17 ?_
        refine lv_bipush (v := nI 80) hx hb dX7_next_20 (by decide) ?_
        refine lv_iload hx hb dX7_next_22 (lv_at hl 0 rfl) ?_
        refine nv_iadd hx hb dX7_next_24 ?_
        refine nv_gald (i := 80 + d) hx hb hK.1 hP 1 0 rfl rfl (by first | omega | (simp only [gEndAt]; omega)) (by decide) dX7_next_25 ?_
        have q4 : G (80 + d) < 2 ^ 20 := hG.lt (k := 80 + d) (by omega)
        refine lv_iconst (v := nI 1) hx hb dX7_next_26 (by decide) ?_
        refine nv_icmp_eq (tgt := 36) hx hb dX7_next_27 (by decide) (by omega) (by omega) (fun c5 => ?_) (fun c5 => ?_)
        · refine lv_iload_n hx hb dX7_next_36 rfl (lv_at hl 1 rfl) ?_
          refine lv_iload_n hx hb dX7_next_37 rfl (lv_at hl 3 rfl) ?_
          refine lv_aload_n hx hb dX7_next_38 rfl (lv_at hl 2 rfl) ?_
          refine va_get (D := D) (ci := 9) (v := .ref aG) (C := RX7) (T := TX7) (N := 18) hx hb hts in_X7 hown hK.1 hP 0 rfl rfl 0 (by decide) fl_7 (fun _ h9 => h9) rfl dX7_next_39 ?_
          refine lv_bipush (v := nI 88) hx hb dX7_next_42 (by decide) ?_
          refine lv_iload hx hb dX7_next_44 (lv_at hl 0 rfl) ?_
          refine nv_iadd hx hb dX7_next_46 ?_
          refine nv_gald (i := 88 + d) hx hb hK.1 hP 1 0 rfl rfl (by first | omega | (simp only [gEndAt]; omega)) (by decide) dX7_next_47 ?_
          have q6 : G (88 + d) < 2 ^ 20 := hG.lt (k := 88 + d) (by omega)
          refine lv_ishr hx hb dX7_next_48 ?_
          refine nv_to (z >>> (G (88 + d))) (nb_shr (by omega) (by omega)) ?_
          refine lv_iconst (v := nI 1) hx hb dX7_next_49 (by decide) ?_
          refine lv_iand hx hb dX7_next_50 ?_
          refine nv_to (z >>> (G (88 + d)) &&& 1) (nb_and1 (nv_shlt (by omega))) ?_
          refine lv_aload_n hx hb dX7_next_51 rfl (lv_at hl 2 rfl) ?_
          refine va_get (D := D) (ci := 9) (v := .ref aG) (C := RX7) (T := TX7) (N := 18) hx hb hts in_X7 hown hK.1 hP 0 rfl rfl 0 (by decide) fl_7 (fun _ h9 => h9) rfl dX7_next_52 ?_
          refine lv_bipush (v := nI 96) hx hb dX7_next_55 (by decide) ?_
          refine lv_iload hx hb dX7_next_57 (lv_at hl 0 rfl) ?_
          refine nv_iadd hx hb dX7_next_59 ?_
          refine nv_gald (i := 96 + d) hx hb hK.1 hP 1 0 rfl rfl (by first | omega | (simp only [gEndAt]; omega)) (by decide) dX7_next_60 ?_
          have q7 : G (96 + d) < 2 ^ 20 := hG.lt (k := 96 + d) (by omega)
          refine lv_ishl hx hb dX7_next_61 ?_
          refine nv_to ((z >>> (G (88 + d)) &&& 1) <<< (G (96 + d))) (nv_b1shl (by omega)) ?_
          refine lv_ior hx hb dX7_next_62 ?_
          refine nv_to (t ||| ((z >>> (G (88 + d)) &&& 1) <<< (G (96 + d)))) (nb_or _ _) ?_
          refine lv_istore_n (lv' := [(3, .int (nI (t ||| ((z >>> (G (88 + d)) &&& 1) <<< (G (96 + d)))))), (4, .int (nI d)), (0, .ref h), (1, .int (nI z)), (2, .int x)]) hx hb dX7_next_63 rfl hl (by decide) rfl (fun ls hl => ?_)
          refine lv_iload_n hx hb dX7_next_64 rfl (lv_at hl 0 rfl) ?_
          refine lv_iload_n hx hb dX7_next_65 rfl (lv_at hl 3 rfl) ?_
          refine lv_aload_n hx hb dX7_next_66 rfl (lv_at hl 2 rfl) ?_
          refine va_get (D := D) (ci := 9) (v := .ref aG) (C := RX7) (T := TX7) (N := 18) hx hb hts in_X7 hown hK.1 hP 0 rfl rfl 0 (by decide) fl_7 (fun _ h9 => h9) rfl dX7_next_67 ?_
          refine lv_bipush (v := nI 96) hx hb dX7_next_70 (by decide) ?_
          refine lv_iload hx hb dX7_next_72 (lv_at hl 1 rfl) ?_
          refine nv_iadd hx hb dX7_next_74 ?_
          refine nv_gald (i := 96 + d) hx hb hK.1 hP 1 0 rfl rfl (by first | omega | (simp only [gEndAt]; omega)) (by decide) dX7_next_75 ?_
          have q8 : G (96 + d) < 2 ^ 20 := hG.lt (k := 96 + d) (by omega)
          refine lv_ishr hx hb dX7_next_76 ?_
          refine nv_to (z >>> (G (96 + d))) (nb_shr (by omega) (by omega)) ?_
          refine lv_iconst (v := nI 1) hx hb dX7_next_77 (by decide) ?_
          refine lv_iand hx hb dX7_next_78 ?_
          refine nv_to (z >>> (G (96 + d)) &&& 1) (nb_and1 (nv_shlt (by omega))) ?_
          refine lv_aload_n hx hb dX7_next_79 rfl (lv_at hl 2 rfl) ?_
          refine va_get (D := D) (ci := 9) (v := .ref aG) (C := RX7) (T := TX7) (N := 18) hx hb hts in_X7 hown hK.1 hP 0 rfl rfl 0 (by decide) fl_7 (fun _ h9 => h9) rfl dX7_next_80 ?_
          refine lv_bipush (v := nI 88) hx hb dX7_next_83 (by decide) ?_
          refine lv_iload hx hb dX7_next_85 (lv_at hl 1 rfl) ?_
          refine nv_iadd hx hb dX7_next_87 ?_
          refine nv_gald (i := 88 + d) hx hb hK.1 hP 1 0 rfl rfl (by first | omega | (simp only [gEndAt]; omega)) (by decide) dX7_next_88 ?_
          have q9 : G (88 + d) < 2 ^ 20 := hG.lt (k := 88 + d) (by omega)
          refine lv_ishl hx hb dX7_next_89 ?_
          refine nv_to ((z >>> (G (96 + d)) &&& 1) <<< (G (88 + d))) (nv_b1shl (by omega)) ?_
          refine lv_ior hx hb dX7_next_90 ?_
          refine nv_to ((t ||| ((z >>> (G (88 + d)) &&& 1) <<< (G (96 + d)))) ||| ((z >>> (G (96 + d)) &&& 1) <<< (G (88 + d)))) (nb_or _ _) ?_
          refine lv_istore_n (lv' := [(3, .int (nI ((t ||| ((z >>> (G (88 + d)) &&& 1) <<< (G (96 + d)))) ||| ((z >>> (G (96 + d)) &&& 1) <<< (G (88 + d)))))), (4, .int (nI d)), (0, .ref h), (1, .int (nI z)), (2, .int x)]) hx hb dX7_next_91 rfl hl (by decide) rfl (fun ls hl => ?_)
          refine lv_iinc (v := nI (d + 1)) (lv' := [(4, .int (nI (d + 1))), (3, .int (nI ((t ||| ((z >>> (G (88 + d)) &&& 1) <<< (G (96 + d)))) ||| ((z >>> (G (96 + d)) &&& 1) <<< (G (88 + d)))))), (0, .ref h), (1, .int (nI z)), (2, .int x)]) hx hb dX7_next_92 hl (k := 1) rfl (by show nI _ + Int32.ofInt 1 = _; exact nI_add _ 1) (by decide) rfl (fun ls hl => ?_)
          refine lv_goto (tgt := 5) hx hb dX7_next_95 (by decide) ?_
          exact ih5  (d + 1) ((t ||| ((z >>> (G (88 + d)) &&& 1) <<< (G (96 + d)))) ||| ((z >>> (G (96 + d)) &&& 1) <<< (G (88 + d)))) ((by omega)) ((by subst ht; exact (if_pos (Or.inl c5)).symm)) (by omega) ls (lv_sub hl [0, 1, 2, 3, 4] rfl)
        · refine lv_iload hx hb dX7_next_30 (lv_at hl 0 rfl) ?_
          refine lv_iload_n hx hb dX7_next_32 rfl (lv_at hl 4 rfl) ?_
          refine lv_icmp_ne (tgt := 92) hx hb dX7_next_33 (by decide) (fun c10 => ?_) (fun c10 => ?_)
          · refine lv_iinc (v := nI (d + 1)) (lv' := [(4, .int (nI (d + 1))), (3, .int (nI t)), (0, .ref h), (1, .int (nI z)), (2, .int x)]) hx hb dX7_next_92 hl (k := 0) rfl (by show nI _ + Int32.ofInt 1 = _; exact nI_add _ 1) (by decide) rfl (fun ls hl => ?_)
            refine lv_goto (tgt := 5) hx hb dX7_next_95 (by decide) ?_
            exact ih5  (d + 1) t ((by omega)) ((by subst ht; exact (if_neg (fun q => q.elim c5 c10)).symm)) (by omega) ls (lv_sub hl [0, 1, 2, 3, 4] rfl)
          · refine lv_iload_n hx hb dX7_next_36 rfl (lv_at hl 1 rfl) ?_
            refine lv_iload_n hx hb dX7_next_37 rfl (lv_at hl 3 rfl) ?_
            refine lv_aload_n hx hb dX7_next_38 rfl (lv_at hl 2 rfl) ?_
            refine va_get (D := D) (ci := 9) (v := .ref aG) (C := RX7) (T := TX7) (N := 18) hx hb hts in_X7 hown hK.1 hP 0 rfl rfl 0 (by decide) fl_7 (fun _ h9 => h9) rfl dX7_next_39 ?_
            refine lv_bipush (v := nI 88) hx hb dX7_next_42 (by decide) ?_
            refine lv_iload hx hb dX7_next_44 (lv_at hl 0 rfl) ?_
            refine nv_iadd hx hb dX7_next_46 ?_
            refine nv_gald (i := 88 + d) hx hb hK.1 hP 1 0 rfl rfl (by first | omega | (simp only [gEndAt]; omega)) (by decide) dX7_next_47 ?_
            have q11 : G (88 + d) < 2 ^ 20 := hG.lt (k := 88 + d) (by omega)
            refine lv_ishr hx hb dX7_next_48 ?_
            refine nv_to (z >>> (G (88 + d))) (nb_shr (by omega) (by omega)) ?_
            refine lv_iconst (v := nI 1) hx hb dX7_next_49 (by decide) ?_
            refine lv_iand hx hb dX7_next_50 ?_
            refine nv_to (z >>> (G (88 + d)) &&& 1) (nb_and1 (nv_shlt (by omega))) ?_
            refine lv_aload_n hx hb dX7_next_51 rfl (lv_at hl 2 rfl) ?_
            refine va_get (D := D) (ci := 9) (v := .ref aG) (C := RX7) (T := TX7) (N := 18) hx hb hts in_X7 hown hK.1 hP 0 rfl rfl 0 (by decide) fl_7 (fun _ h9 => h9) rfl dX7_next_52 ?_
            refine lv_bipush (v := nI 96) hx hb dX7_next_55 (by decide) ?_
            refine lv_iload hx hb dX7_next_57 (lv_at hl 0 rfl) ?_
            refine nv_iadd hx hb dX7_next_59 ?_
            refine nv_gald (i := 96 + d) hx hb hK.1 hP 1 0 rfl rfl (by first | omega | (simp only [gEndAt]; omega)) (by decide) dX7_next_60 ?_
            have q12 : G (96 + d) < 2 ^ 20 := hG.lt (k := 96 + d) (by omega)
            refine lv_ishl hx hb dX7_next_61 ?_
            refine nv_to ((z >>> (G (88 + d)) &&& 1) <<< (G (96 + d))) (nv_b1shl (by omega)) ?_
            refine lv_ior hx hb dX7_next_62 ?_
            refine nv_to (t ||| ((z >>> (G (88 + d)) &&& 1) <<< (G (96 + d)))) (nb_or _ _) ?_
            refine lv_istore_n (lv' := [(3, .int (nI (t ||| ((z >>> (G (88 + d)) &&& 1) <<< (G (96 + d)))))), (4, .int (nI d)), (0, .ref h), (1, .int (nI z)), (2, .int x)]) hx hb dX7_next_63 rfl hl (by decide) rfl (fun ls hl => ?_)
            refine lv_iload_n hx hb dX7_next_64 rfl (lv_at hl 0 rfl) ?_
            refine lv_iload_n hx hb dX7_next_65 rfl (lv_at hl 3 rfl) ?_
            refine lv_aload_n hx hb dX7_next_66 rfl (lv_at hl 2 rfl) ?_
            refine va_get (D := D) (ci := 9) (v := .ref aG) (C := RX7) (T := TX7) (N := 18) hx hb hts in_X7 hown hK.1 hP 0 rfl rfl 0 (by decide) fl_7 (fun _ h9 => h9) rfl dX7_next_67 ?_
            refine lv_bipush (v := nI 96) hx hb dX7_next_70 (by decide) ?_
            refine lv_iload hx hb dX7_next_72 (lv_at hl 1 rfl) ?_
            refine nv_iadd hx hb dX7_next_74 ?_
            refine nv_gald (i := 96 + d) hx hb hK.1 hP 1 0 rfl rfl (by first | omega | (simp only [gEndAt]; omega)) (by decide) dX7_next_75 ?_
            have q13 : G (96 + d) < 2 ^ 20 := hG.lt (k := 96 + d) (by omega)
            refine lv_ishr hx hb dX7_next_76 ?_
            refine nv_to (z >>> (G (96 + d))) (nb_shr (by omega) (by omega)) ?_
            refine lv_iconst (v := nI 1) hx hb dX7_next_77 (by decide) ?_
            refine lv_iand hx hb dX7_next_78 ?_
            refine nv_to (z >>> (G (96 + d)) &&& 1) (nb_and1 (nv_shlt (by omega))) ?_
            refine lv_aload_n hx hb dX7_next_79 rfl (lv_at hl 2 rfl) ?_
            refine va_get (D := D) (ci := 9) (v := .ref aG) (C := RX7) (T := TX7) (N := 18) hx hb hts in_X7 hown hK.1 hP 0 rfl rfl 0 (by decide) fl_7 (fun _ h9 => h9) rfl dX7_next_80 ?_
            refine lv_bipush (v := nI 88) hx hb dX7_next_83 (by decide) ?_
            refine lv_iload hx hb dX7_next_85 (lv_at hl 1 rfl) ?_
            refine nv_iadd hx hb dX7_next_87 ?_
            refine nv_gald (i := 88 + d) hx hb hK.1 hP 1 0 rfl rfl (by first | omega | (simp only [gEndAt]; omega)) (by decide) dX7_next_88 ?_
            have q14 : G (88 + d) < 2 ^ 20 := hG.lt (k := 88 + d) (by omega)
            refine lv_ishl hx hb dX7_next_89 ?_
            refine nv_to ((z >>> (G (96 + d)) &&& 1) <<< (G (88 + d))) (nv_b1shl (by omega)) ?_
            refine lv_ior hx hb dX7_next_90 ?_
            refine nv_to ((t ||| ((z >>> (G (88 + d)) &&& 1) <<< (G (96 + d)))) ||| ((z >>> (G (96 + d)) &&& 1) <<< (G (88 + d)))) (nb_or _ _) ?_
            refine lv_istore_n (lv' := [(3, .int (nI ((t ||| ((z >>> (G (88 + d)) &&& 1) <<< (G (96 + d)))) ||| ((z >>> (G (96 + d)) &&& 1) <<< (G (88 + d)))))), (4, .int (nI d)), (0, .ref h), (1, .int (nI z)), (2, .int x)]) hx hb dX7_next_91 rfl hl (by decide) rfl (fun ls hl => ?_)
            refine lv_iinc (v := nI (d + 1)) (lv' := [(4, .int (nI (d + 1))), (3, .int (nI ((t ||| ((z >>> (G (88 + d)) &&& 1) <<< (G (96 + d)))) ||| ((z >>> (G (96 + d)) &&& 1) <<< (G (88 + d)))))), (0, .ref h), (1, .int (nI z)), (2, .int x)]) hx hb dX7_next_92 hl (k := 1) rfl (by show nI _ + Int32.ofInt 1 = _; exact nI_add _ 1) (by decide) rfl (fun ls hl => ?_)
            refine lv_goto (tgt := 5) hx hb dX7_next_95 (by decide) ?_
            exact ih5  (d + 1) ((t ||| ((z >>> (G (88 + d)) &&& 1) <<< (G (96 + d)))) ||| ((z >>> (G (96 + d)) &&& 1) <<< (G (88 + d)))) ((by omega)) ((by subst ht; exact (if_pos (Or.inr c10)).symm)) (by omega) ls (lv_sub hl [0, 1, 2, 3, 4] rfl)
  exact hloop1 _ 0 z ((Nat.zero_le _)) (rfl) (Nat.lt_succ_self _) ls (lv_sub hl [0, 1, 2, 3, 4] rfl)

set_option maxHeartbeats 1000000 in
set_option maxRecDepth 100000 in
theorem c_X7_reachedWith (l : Launch) {D : va_G} {cI cC : ClassId} {h aG aB aH aS aI aL aT : Nat} {G B Hi Sv In Le : Nat → Nat} {To : Nat → Int32} {ch hs ty wy ln th sp iw : Nat} {ea ra wd : Int32} {b : Nat} (hG : gWf b G) (r : Nat) (x : Int32) (hr6 : r < 6) : Met l yX7_reachedWith wsX7_reachedWith ({ frames := 1, cells := 0, slots := 0, locals := 24 }) (va_Pc [.ref h, .int (nI r), .int x] (sPre D [(cI, .int), (cC, .char)] [] (fun H => va_P D vwCl [(h, .inr (9, [.ref aG, .ref aB, .ref aH, .int (nI ch), .ref aS, .int (nI hs), .ref aI, .int (nI ty), .int ea, .int ra, .int (nI wy), .int wd, .ref aL, .int (nI ln), .int (nI th), .int (nI sp), .int (nI iw), .ref aT])), (aG, .inl (cI, 128, .inl (gN G))), (aB, .inl (cI, 128, .inl (gN B))), (aH, .inl (cI, 1024, .inl (gN Hi))), (aS, .inl (cI, 128, .inl (gN Sv))), (aI, .inl (cI, 60, .inl (gN In))), (aL, .inl (cC, 40, .inl (gN Le))), (aT, .inl (cI, 360, .inl To))] H))) (sQ (nI (gRw G r x))) 0 0 (fun _ => False) := by
  refine nv_met (cc := cX7_reachedWith) (maxL := 5) (ret := (some .int)) (by decide) rfl (Nat.le_of_ble_eq_true rfl) ?_
  intro p0 e0 s m0 args below meth c0 Q hq hargs hnA hpre ls hl
  obtain ⟨hx, hb, hr, hts, hown, hlocks, hml⟩ := hnA
  obtain ⟨hP, hK⟩ := hpre
  have hown : s.vm.findClass RX7 = some m0.cls := hown
  have hP : va_P D vwCl [(h, .inr (9, [.ref aG, .ref aB, .ref aH, .int (nI ch), .ref aS, .int (nI hs), .ref aI, .int (nI ty), .int ea, .int ra, .int (nI wy), .int wd, .ref aL, .int (nI ln), .int (nI th), .int (nI sp), .int (nI iw), .ref aT])), (aG, .inl (cI, 128, .inl (gN G))), (aB, .inl (cI, 128, .inl (gN B))), (aH, .inl (cI, 1024, .inl (gN Hi))), (aS, .inl (cI, 128, .inl (gN Sv))), (aI, .inl (cI, 60, .inl (gN In))), (aL, .inl (cC, 40, .inl (gN Le))), (aT, .inl (cI, 360, .inl To))] s.heap := hP
  have hl : lv_has ls 5 [(0, .ref h), (1, .int (nI r)), (2, .int x)] := hl
  obtain ⟨g_b, g_k, g_0, g_1, g_2, g_e, g_d, g_t, g_y, g_s, g_h⟩ := id hG
  refine lv_iconst (v := nI 1) hx hb dX7_reachedWith_0 (by decide) ?_
  refine lv_iload_n hx hb dX7_reachedWith_1 rfl (lv_at hl 1 rfl) ?_
  refine lv_ishl hx hb dX7_reachedWith_2 ?_
  refine nv_to (1 <<< r) (nv_1shl (by omega)) ?_
  refine lv_istore_n (lv' := [(3, .int (nI (1 <<< r))), (0, .ref h), (1, .int (nI r)), (2, .int x)]) hx hb dX7_reachedWith_3 rfl hl (by decide) rfl (fun ls hl => ?_)
  refine lv_iconst (v := nI 0) hx hb dX7_reachedWith_4 (by decide) ?_
  refine lv_istore (lv' := [(4, .int (nI 0)), (3, .int (nI (1 <<< r))), (0, .ref h), (1, .int (nI r)), (2, .int x)]) hx hb dX7_reachedWith_5 hl (by decide) rfl (fun ls hl => ?_)
  have hloop1 : ∀ (nn : Nat) (k : Nat), (k ≤ 6) → 6 - k < nn → ∀ (ls : Array Slot), lv_has ls 5 [(4, .int (nI k)), (3, .int (nI (gIt G x (1 <<< r) k))), (0, .ref h), (1, .int (nI r)), (2, .int x)] → W p0 l e0 ({ frames := 1, cells := 0, slots := 0, locals := 24 }) s m0 args below meth c0 s.heap [] 0 0 Q (F0 m0 7 ls []) := by
    intro nn7
    induction nn7 with
    | zero => intro k hk hn0  _ _; exact absurd hn0 (Nat.not_lt_zero _)
    | succ nn7 ih7 =>
      intro k hk hn7  ls hl
      refine lv_iload hx hb dX7_reachedWith_7 (lv_at hl 0 rfl) ?_
      refine lv_bipush (v := nI 6) hx hb dX7_reachedWith_9 (by decide) ?_
      refine nv_icmp_ge (tgt := 27) hx hb dX7_reachedWith_11 (by decide) (by omega) (by omega) (fun c2 => ?_) (fun c2 => ?_)
      · refine lv_iload_n hx hb dX7_reachedWith_27 rfl (lv_at hl 1 rfl) ?_
        exact nv_retS hq hx hb hr hlocks (nar_i _) (by rw [show k = 6 by omega] <;> rfl) dX7_reachedWith_28
      · refine lv_aload_n hx hb dX7_reachedWith_14 rfl (lv_at hl 2 rfl) ?_
        refine lv_iload_n hx hb dX7_reachedWith_15 rfl (lv_at hl 1 rfl) ?_
        refine lv_iload_n hx hb dX7_reachedWith_16 rfl (lv_at hl 4 rfl) ?_
        refine nv_kS (va_runV (As := [.int (nI (gIt G x (1 <<< r) k)), .int x]) (rest := []) ⟨hx, hb, hml, hown, hts⟩ (c_X7_next l hG (gIt G x (1 <<< r) k) (x) (gIt_lt hG (shl1_lt hr6) x k)) (cwV 2 hts gX7_reachedWith_X7_next rfl rfl rfl (by decide +kernel) ⟨Nat.le_of_ble_eq_true rfl, Nat.le_of_ble_eq_true rfl⟩) (nv_pV hK hP (va_recv hK.1 hP (ci := 9) (q0 := 0) rfl rfl)) rfl rfl hl.1 rfl (lv_room (Nat.le_of_ble_eq_true rfl)) dX7_reachedWith_17 ⟨Nat.zero_le _, Nat.zero_le _⟩) ?_
        refine lv_istore_n (lv' := [(3, .int (nI (gNx G (gIt G x (1 <<< r) k) (x) (G 0)))), (4, .int (nI k)), (0, .ref h), (1, .int (nI r)), (2, .int x)]) hx hb dX7_reachedWith_20 rfl hl (by decide) rfl (fun ls hl => ?_)
        refine lv_iinc (v := nI (k + 1)) (lv' := [(4, .int (nI (k + 1))), (3, .int (nI (gNx G (gIt G x (1 <<< r) k) (x) (G 0)))), (0, .ref h), (1, .int (nI r)), (2, .int x)]) hx hb dX7_reachedWith_21 hl (k := 1) rfl (by show nI _ + Int32.ofInt 1 = _; exact nI_add _ 1) (by decide) rfl (fun ls hl => ?_)
        refine lv_goto (tgt := 7) hx hb dX7_reachedWith_24 (by decide) ?_
        exact ih7  (k + 1) ((by omega)) (by omega) ls (lv_sub hl [0, 1, 2, 3, 4] rfl)
  exact hloop1 _ 0 ((Nat.zero_le _)) (Nat.lt_succ_self _) ls (lv_sub hl [0, 1, 2, 3, 4] rfl)

set_option maxHeartbeats 1000000 in
set_option maxRecDepth 100000 in
theorem c_X7_couldBe (l : Launch) {D : va_G} {cI cC : ClassId} {h aG aB aH aS aI aL aT : Nat} {G B Hi Sv In Le : Nat → Nat} {To : Nat → Int32} {ch hs ty wy ln th sp iw : Nat} {ea ra wd : Int32} {A : Nat → Prop} (hD : ∀ (G B Hi Sv In Le : Nat → Nat) (To : Nat → Int32) (fs : List Value), va_D A [(h, .inr (9, fs)), (aG, .inl (cI, 128, .inl (gN G))), (aB, .inl (cI, 128, .inl (gN B))), (aH, .inl (cI, 1024, .inl (gN Hi))), (aS, .inl (cI, 128, .inl (gN Sv))), (aI, .inl (cI, 60, .inl (gN In))), (aL, .inl (cC, 40, .inl (gN Le))), (aT, .inl (cI, 360, .inl To))]) {b : Nat} (hG : gWf b G) (d : Int32) : Met l yX7_couldBe wsX7_couldBe ({ frames := 2, cells := 0, slots := 0, locals := 43 }) (va_Pc [.ref h, .int d] (sPre D [(cI, .int), (cC, .char)] [] (fun H => va_P D vwCl [(h, .inr (9, [.ref aG, .ref aB, .ref aH, .int (nI ch), .ref aS, .int (nI hs), .ref aI, .int (nI ty), .int ea, .int ra, .int (nI wy), .int wd, .ref aL, .int (nI ln), .int (nI th), .int (nI sp), .int (nI iw), .ref aT])), (aG, .inl (cI, 128, .inl (gN G))), (aB, .inl (cI, 128, .inl (gN B))), (aH, .inl (cI, 1024, .inl (gN Hi))), (aS, .inl (cI, 128, .inl (gN Sv))), (aI, .inl (cI, 60, .inl (gN In))), (aL, .inl (cC, 40, .inl (gN Le))), (aT, .inl (cI, 360, .inl To))] H))) (mQ D ((if iR d (G 0) then nI (gCould G (tN d)) else 0)) [(h, .inr (9, [.ref aG, .ref aB, .ref aH, .int (nI ch), .ref aS, .int (nI hs), .ref aI, .int (nI ty), .int ea, .int ra, .int (nI wy), .int wd, .ref aL, .int (nI ln), .int (nI ((if iR d (G 0) then 0 else 1))), .int (nI sp), .int (nI iw), .ref aT])), (aG, .inl (cI, 128, .inl (gN G))), (aB, .inl (cI, 128, .inl (gN B))), (aH, .inl (cI, 1024, .inl (gN Hi))), (aS, .inl (cI, 128, .inl (gN Sv))), (aI, .inl (cI, 60, .inl (gN In))), (aL, .inl (cC, 40, .inl (gN Le))), (aT, .inl (cI, 360, .inl To))] A) 0 0 A := by
  refine nv_met (cc := cX7_couldBe) (maxL := 4) (ret := (some .int)) (by decide) rfl (Nat.le_of_ble_eq_true rfl) ?_
  intro p0 e0 s m0 args below meth c0 Q hq hargs hnA hpre ls hl
  obtain ⟨hx, hb, hr, hts, hown, hlocks, hml⟩ := hnA
  obtain ⟨hP, hK⟩ := hpre
  have hown : s.vm.findClass RX7 = some m0.cls := hown
  have hP : va_P D vwCl [(h, .inr (9, [.ref aG, .ref aB, .ref aH, .int (nI ch), .ref aS, .int (nI hs), .ref aI, .int (nI ty), .int ea, .int ra, .int (nI wy), .int wd, .ref aL, .int (nI ln), .int (nI th), .int (nI sp), .int (nI iw), .ref aT])), (aG, .inl (cI, 128, .inl (gN G))), (aB, .inl (cI, 128, .inl (gN B))), (aH, .inl (cI, 1024, .inl (gN Hi))), (aS, .inl (cI, 128, .inl (gN Sv))), (aI, .inl (cI, 60, .inl (gN In))), (aL, .inl (cC, 40, .inl (gN Le))), (aT, .inl (cI, 360, .inl To))] s.heap := hP
  have hl : lv_has ls 4 [(0, .ref h), (1, .int d)] := hl
  have hS : va_S A s.heap s.heap [] := va_S.rf
  have in_X7 : ∀ w ∈ wsX70, w ∈ wsX7_couldBe := by decide +kernel
  have fl_7 := hts (.fieldLink RX7 7 "DoorDialectModel" "g" "[I") (by decide +kernel)
  obtain ⟨g_b, g_k, g_0, g_1, g_2, g_e, g_d, g_t, g_y, g_s, g_h⟩ := id hG
  refine lv_aload_n hx hb dX7_couldBe_0 rfl (lv_at hl 0 rfl) ?_
  refine lv_iload_n hx hb dX7_couldBe_1 rfl (lv_at hl 1 rfl) ?_
  refine nv_kS (va_runV (As := [.int d]) (rest := []) ⟨hx, hb, hml, hown, hts⟩ (c_X7_isDoor l (d) (by omega)) (cwV 1 hts gX7_couldBe_X7_isDoor rfl rfl rfl (by decide +kernel) ⟨Nat.le_of_ble_eq_true rfl, Nat.le_of_ble_eq_true rfl⟩) (nv_pV hK hP (va_recv hK.1 hP (ci := 9) (q0 := 0) rfl rfl)) rfl rfl hl.1 rfl (lv_room (Nat.le_of_ble_eq_true rfl)) dX7_couldBe_2 ⟨Nat.zero_le _, Nat.zero_le _⟩) ?_
  refine nv_ifb_ne (tgt := 14) hx hb dX7_couldBe_5 (by decide) (fun c1 => ?_) (fun c1 => ?_)
  · obtain ⟨dk, h_dk, rfl⟩ := iR_of c1 (by omega)
    have et_dk : tN (nI dk) = dk := tN_nI (by omega)
    obtain ⟨w_a, w_g, w_n, w_s, w_w, w_l, w_o, w_x, w_y, w_1, w_2, w_3, w_4⟩ := hG.door (d := dk) (by omega)
    have hcc := gWf_case hG (d := dk) (by omega)
    have hee := gEnd_lt hG (d := dk) (by omega)
    refine lv_iconst (v := nI 0) hx hb dX7_couldBe_14 (by decide) ?_
    refine lv_istore_n (lv' := [(2, .int (nI 0)), (0, .ref h), (1, .int (nI dk))]) hx hb dX7_couldBe_15 rfl hl (by decide) rfl (fun ls hl => ?_)
    refine lv_iconst (v := nI 0) hx hb dX7_couldBe_16 (by decide) ?_
    refine lv_istore_n (lv' := [(3, .int (nI 0)), (2, .int (nI 0)), (0, .ref h), (1, .int (nI dk))]) hx hb dX7_couldBe_17 rfl hl (by decide) rfl (fun ls hl => ?_)
    have hloop2 : ∀ (nn : Nat) (k : Nat), (k ≤ 4) → 4 - k < nn → ∀ (H : Heap) (locs : List Loc), va_P D vwCl [(h, .inr (9, [.ref aG, .ref aB, .ref aH, .int (nI ch), .ref aS, .int (nI hs), .ref aI, .int (nI ty), .int ea, .int ra, .int (nI wy), .int wd, .ref aL, .int (nI ln), .int (nI th), .int (nI sp), .int (nI iw), .ref aT])), (aG, .inl (cI, 128, .inl (gN G))), (aB, .inl (cI, 128, .inl (gN B))), (aH, .inl (cI, 1024, .inl (gN Hi))), (aS, .inl (cI, 128, .inl (gN Sv))), (aI, .inl (cI, 60, .inl (gN In))), (aL, .inl (cC, 40, .inl (gN Le))), (aT, .inl (cI, 360, .inl To))] H → va_S A s.heap H locs → ∀ (ls : Array Slot), lv_has ls 4 [(3, .int (nI k)), (2, .int (nI (bs (fun c => G (gEndAt (G (32 + dk)) c (G (48 + dk))) = gEnd G dk) k))), (0, .ref h), (1, .int (nI dk))] → W p0 l e0 ({ frames := 2, cells := 0, slots := 0, locals := 43 }) s m0 args below meth c0 H locs 0 0 Q (F0 m0 18 ls []) := by
      intro nn18
      induction nn18 with
      | zero => intro k hk hn0 _ _ _ _ _ _; exact absurd hn0 (Nat.not_lt_zero _)
      | succ nn18 ih18 =>
        intro k hk hn18 H locs hP hS ls hl
        have hP : va_P D vwCl [(h, .inr (9, [.ref aG, .ref aB, .ref aH, .int (nI ch), .ref aS, .int (nI hs), .ref aI, .int (nI ty), .int ea, .int ra, .int (nI wy), .int wd, .ref aL, .int (nI ln), .int (nI th), .int (nI sp), .int (nI iw), .ref aT])), (aG, .inl (cI, 128, .inl (gN G))), (aB, .inl (cI, 128, .inl (gN B))), (aH, .inl (cI, 1024, .inl (gN Hi))), (aS, .inl (cI, 128, .inl (gN Sv))), (aI, .inl (cI, 60, .inl (gN In))), (aL, .inl (cC, 40, .inl (gN Le))), (aT, .inl (cI, 360, .inl To))] H := hP
        refine lv_iload_n hx hb dX7_couldBe_18 rfl (lv_at hl 0 rfl) ?_
        refine lv_iconst (v := nI 4) hx hb dX7_couldBe_19 (by decide) ?_
        refine nv_icmp_ge (tgt := 74) hx hb dX7_couldBe_20 (by decide) (by omega) (by omega) (fun c3 => ?_) (fun c3 => ?_)
        · refine lv_aload_n hx hb dX7_couldBe_74 rfl (lv_at hl 2 rfl) ?_
          refine lv_iload_n hx hb dX7_couldBe_75 rfl (lv_at hl 1 rfl) ?_
          refine nv_kM (va_runV (As := [.int (nI (bs (fun c => G (gEndAt (G (32 + dk)) c (G (48 + dk))) = gEnd G dk) k))]) (rest := []) ⟨hx, hb, hml, hown, hts⟩ (c_X7_done l hD (nI (bs (fun c => G (gEndAt (G (32 + dk)) c (G (48 + dk))) = gEnd G dk) k))) (cwV 1 hts gX7_couldBe_X7_done rfl rfl rfl (by decide +kernel) ⟨Nat.le_of_ble_eq_true rfl, Nat.le_of_ble_eq_true rfl⟩) (nv_pV hK hP (va_recv hK.1 hP (ci := 9) (q0 := 0) rfl rfl)) rfl rfl hl.1 rfl (lv_room (Nat.le_of_ble_eq_true rfl)) dX7_couldBe_76 ⟨Nat.zero_le _, Nat.zero_le _⟩) hS (fun H locs hP hS => ?_)
          have hP : va_P D vwCl [(h, .inr (9, [.ref aG, .ref aB, .ref aH, .int (nI ch), .ref aS, .int (nI hs), .ref aI, .int (nI ty), .int ea, .int ra, .int (nI wy), .int wd, .ref aL, .int (nI ln), .int (nI 0), .int (nI sp), .int (nI iw), .ref aT])), (aG, .inl (cI, 128, .inl (gN G))), (aB, .inl (cI, 128, .inl (gN B))), (aH, .inl (cI, 1024, .inl (gN Hi))), (aS, .inl (cI, 128, .inl (gN Sv))), (aI, .inl (cI, 60, .inl (gN In))), (aL, .inl (cC, 40, .inl (gN Le))), (aT, .inl (cI, 360, .inl To))] H := hP
          exact nv_retM hq hx hb hr hlocks (nar_i _) (by rw [if_pos c1, et_dk]; rw [show k = 4 by omega] <;> rfl) hS hP (by rw [if_pos c1]) dX7_couldBe_79
        · refine lv_iload_n hx hb dX7_couldBe_23 rfl (lv_at hl 1 rfl) ?_
          refine lv_aload_n hx hb dX7_couldBe_24 rfl (lv_at hl 2 rfl) ?_
          refine va_get (D := D) (ci := 9) (v := .ref aG) (C := RX7) (T := TX7) (N := 18) hx hb hts in_X7 hown hK.1 hP 0 rfl rfl 0 (by decide) fl_7 (fun _ h9 => h9) rfl dX7_couldBe_25 ?_
          refine lv_aload_n hx hb dX7_couldBe_28 rfl (lv_at hl 2 rfl) ?_
          refine va_get (D := D) (ci := 9) (v := .ref aG) (C := RX7) (T := TX7) (N := 18) hx hb hts in_X7 hown hK.1 hP 0 rfl rfl 0 (by decide) fl_7 (fun _ h9 => h9) rfl dX7_couldBe_29 ?_
          refine lv_bipush (v := nI 32) hx hb dX7_couldBe_32 (by decide) ?_
          refine lv_iload_n hx hb dX7_couldBe_34 rfl (lv_at hl 3 rfl) ?_
          refine nv_iadd hx hb dX7_couldBe_35 ?_
          refine nv_gald (i := 32 + dk) hx hb hK.1 hP 1 0 rfl rfl (by first | omega | (simp only [gEndAt]; omega)) (by decide) dX7_couldBe_36 ?_
          have q4 : G (32 + dk) < 2 ^ 20 := hG.lt (k := 32 + dk) (by first | omega | (simp only [gEndAt]; omega))
          refine lv_iload_n hx hb dX7_couldBe_37 rfl (lv_at hl 0 rfl) ?_
          refine lv_aload_n hx hb dX7_couldBe_38 rfl (lv_at hl 2 rfl) ?_
          refine va_get (D := D) (ci := 9) (v := .ref aG) (C := RX7) (T := TX7) (N := 18) hx hb hts in_X7 hown hK.1 hP 0 rfl rfl 0 (by decide) fl_7 (fun _ h9 => h9) rfl dX7_couldBe_39 ?_
          refine lv_bipush (v := nI 48) hx hb dX7_couldBe_42 (by decide) ?_
          refine lv_iload_n hx hb dX7_couldBe_44 rfl (lv_at hl 3 rfl) ?_
          refine nv_iadd hx hb dX7_couldBe_45 ?_
          refine nv_gald (i := 48 + dk) hx hb hK.1 hP 1 0 rfl rfl (by first | omega | (simp only [gEndAt]; omega)) (by decide) dX7_couldBe_46 ?_
          have q5 : G (48 + dk) < 2 ^ 20 := hG.lt (k := 48 + dk) (by first | omega | (simp only [gEndAt]; omega))
          refine nv_kS (va_runS (As := [.int (nI (G (32 + dk))), .int (nI k), .int (nI (G (48 + dk)))]) (rest := [.ref aG, .int (nI (bs (fun c => G (gEndAt (G (32 + dk)) c (G (48 + dk))) = gEnd G dk) k))]) ⟨hx, hb, hml, hown, hts⟩ (c_X7_endingAt l (G (32 + dk)) k (G (48 + dk))) (va_cwS 3 hts gX7_couldBe_X7_endingAt rfl rfl rfl (by decide +kernel) ⟨Nat.le_of_ble_eq_true rfl, Nat.le_of_ble_eq_true rfl⟩) (nv_pS hK trivial) rfl rfl hl.1 rfl (lv_room (Nat.le_of_ble_eq_true rfl)) dX7_couldBe_47 ⟨Nat.zero_le _, Nat.zero_le _⟩) ?_
          refine nv_gald (i := gEndAt (G (32 + dk)) k (G (48 + dk))) hx hb hK.1 hP 1 0 rfl rfl (by simp only [gEndAt]; omega) (by decide) dX7_couldBe_50 ?_
          have q6 : G (gEndAt (G (32 + dk)) k (G (48 + dk))) < 2 ^ 20 := hG.lt (k := gEndAt (G (32 + dk)) k (G (48 + dk))) (by first | omega | (simp only [gEndAt]; omega))
          refine lv_aload_n hx hb dX7_couldBe_51 rfl (lv_at hl 2 rfl) ?_
          refine lv_iload_n hx hb dX7_couldBe_52 rfl (lv_at hl 3 rfl) ?_
          refine nv_kS (va_runV (As := [.int (nI dk)]) (rest := [.int (nI (G (gEndAt (G (32 + dk)) k (G (48 + dk))))), .int (nI (bs (fun c => G (gEndAt (G (32 + dk)) c (G (48 + dk))) = gEnd G dk) k))]) ⟨hx, hb, hml, hown, hts⟩ (c_X7_endingOf l hG dk (by omega)) (cwV 1 hts gX7_couldBe_X7_endingOf rfl rfl rfl (by decide +kernel) ⟨Nat.le_of_ble_eq_true rfl, Nat.le_of_ble_eq_true rfl⟩) (nv_pV hK hP (va_recv hK.1 hP (ci := 9) (q0 := 0) rfl rfl)) rfl rfl hl.1 rfl (lv_room (Nat.le_of_ble_eq_true rfl)) dX7_couldBe_53 ⟨Nat.zero_le _, Nat.zero_le _⟩) ?_
          refine nv_jn (α := Nat) (fun r => W p0 l e0 ({ frames := 2, cells := 0, slots := 0, locals := 43 }) s m0 args below meth c0 H locs 0 0 Q (F0 m0 66 ls (.int (nI r) :: [.int (nI (bs (fun c => G (gEndAt (G (32 + dk)) c (G (48 + dk))) = gEnd G dk) k))]))) ((if G (gEndAt (G (32 + dk)) k (G (48 + dk))) = gEnd G dk then 1 <<< k else 0)) (fun r er => ?_) (fun hJ => ?_)
          · subst er
            refine lv_ior hx hb dX7_couldBe_66 ?_
            refine nv_to (bs (fun c => G (gEndAt (G (32 + dk)) c (G (48 + dk))) = gEnd G dk) (k + 1)) (nv_bor (P := fun c => G (gEndAt (G (32 + dk)) c (G (48 + dk))) = gEnd G dk) rfl) ?_
            refine lv_istore_n (lv' := [(2, .int (nI (bs (fun c => G (gEndAt (G (32 + dk)) c (G (48 + dk))) = gEnd G dk) (k + 1)))), (3, .int (nI k)), (0, .ref h), (1, .int (nI dk))]) hx hb dX7_couldBe_67 rfl hl (by decide) rfl (fun ls hl => ?_)
            refine lv_iinc (v := nI (k + 1)) (lv' := [(3, .int (nI (k + 1))), (2, .int (nI (bs (fun c => G (gEndAt (G (32 + dk)) c (G (48 + dk))) = gEnd G dk) (k + 1)))), (0, .ref h), (1, .int (nI dk))]) hx hb dX7_couldBe_68 hl (k := 1) rfl (by show nI _ + Int32.ofInt 1 = _; exact nI_add _ 1) (by decide) rfl (fun ls hl => ?_)
            refine lv_goto (tgt := 18) hx hb dX7_couldBe_71 (by decide) ?_
            exact ih18  (k + 1) ((by omega)) (by omega) _ _ hP hS ls (lv_sub hl [0, 1, 2, 3] rfl)
          · refine nv_icmp_ne (tgt := 65) hx hb dX7_couldBe_56 (by decide) (by omega) (by omega) (fun c7 => ?_) (fun c7 => ?_)
            · refine lv_iconst (v := nI 0) hx hb dX7_couldBe_65 (by decide) ?_
              exact hJ _ (if_neg c7).symm
            · refine lv_iconst (v := nI 1) hx hb dX7_couldBe_59 (by decide) ?_
              refine lv_iload_n hx hb dX7_couldBe_60 rfl (lv_at hl 0 rfl) ?_
              refine lv_ishl hx hb dX7_couldBe_61 ?_
              refine nv_to (1 <<< k) (nv_1shl (by omega)) ?_
              refine lv_goto (tgt := 66) hx hb dX7_couldBe_62 (by decide) ?_
              exact hJ _ (if_pos c7).symm
    exact hloop2 _ 0 ((Nat.zero_le _)) (Nat.lt_succ_self _) _ _ hP hS ls (lv_sub hl [0, 1, 2, 3] rfl)
  · refine lv_aload_n hx hb dX7_couldBe_8 rfl (lv_at hl 0 rfl) ?_
    refine lv_iconst (v := nI 1) hx hb dX7_couldBe_9 (by decide) ?_
    refine nv_kM (va_runV (As := [.int (nI 1)]) (rest := []) ⟨hx, hb, hml, hown, hts⟩ (c_X7_fails l hD 1) (cwV 1 hts gX7_couldBe_X7_fails rfl rfl rfl (by decide +kernel) ⟨Nat.le_of_ble_eq_true rfl, Nat.le_of_ble_eq_true rfl⟩) (nv_pV hK hP (va_recv hK.1 hP (ci := 9) (q0 := 0) rfl rfl)) rfl rfl hl.1 rfl (lv_room (Nat.le_of_ble_eq_true rfl)) dX7_couldBe_10 ⟨Nat.zero_le _, Nat.zero_le _⟩) hS (fun H locs hP hS => ?_)
    have hP : va_P D vwCl [(h, .inr (9, [.ref aG, .ref aB, .ref aH, .int (nI ch), .ref aS, .int (nI hs), .ref aI, .int (nI ty), .int ea, .int ra, .int (nI wy), .int wd, .ref aL, .int (nI ln), .int (nI 1), .int (nI sp), .int (nI iw), .ref aT])), (aG, .inl (cI, 128, .inl (gN G))), (aB, .inl (cI, 128, .inl (gN B))), (aH, .inl (cI, 1024, .inl (gN Hi))), (aS, .inl (cI, 128, .inl (gN Sv))), (aI, .inl (cI, 60, .inl (gN In))), (aL, .inl (cC, 40, .inl (gN Le))), (aT, .inl (cI, 360, .inl To))] H := hP
    exact nv_retM hq hx hb hr hlocks (nar_i _) (by rw [if_neg c1] <;> rfl) hS hP (by rw [if_neg c1]) dX7_couldBe_13

set_option maxHeartbeats 1000000 in
set_option maxRecDepth 100000 in
theorem c_X7_twins (l : Launch) {D : va_G} {cI cC : ClassId} {h aG aB aH aS aI aL aT : Nat} {G B Hi Sv In Le : Nat → Nat} {To : Nat → Int32} {ch hs ty wy ln th sp iw : Nat} {ea ra wd : Int32} {A : Nat → Prop} (hD : ∀ (G B Hi Sv In Le : Nat → Nat) (To : Nat → Int32) (fs : List Value), va_D A [(h, .inr (9, fs)), (aG, .inl (cI, 128, .inl (gN G))), (aB, .inl (cI, 128, .inl (gN B))), (aH, .inl (cI, 1024, .inl (gN Hi))), (aS, .inl (cI, 128, .inl (gN Sv))), (aI, .inl (cI, 60, .inl (gN In))), (aL, .inl (cC, 40, .inl (gN Le))), (aT, .inl (cI, 360, .inl To))]) {b : Nat} (hG : gWf b G) (d : Int32) : Met l yX7_twins wsX7_twins ({ frames := 3, cells := 0, slots := 0, locals := 65 }) (va_Pc [.ref h, .int d] (sPre D [(cI, .int), (cC, .char)] [] (fun H => va_P D vwCl [(h, .inr (9, [.ref aG, .ref aB, .ref aH, .int (nI ch), .ref aS, .int (nI hs), .ref aI, .int (nI ty), .int ea, .int ra, .int (nI wy), .int wd, .ref aL, .int (nI ln), .int (nI th), .int (nI sp), .int (nI iw), .ref aT])), (aG, .inl (cI, 128, .inl (gN G))), (aB, .inl (cI, 128, .inl (gN B))), (aH, .inl (cI, 1024, .inl (gN Hi))), (aS, .inl (cI, 128, .inl (gN Sv))), (aI, .inl (cI, 60, .inl (gN In))), (aL, .inl (cC, 40, .inl (gN Le))), (aT, .inl (cI, 360, .inl To))] H))) (mQ D ((if iR d (G 0) then nI (gTwins G (tN d)) else 0)) [(h, .inr (9, [.ref aG, .ref aB, .ref aH, .int (nI ch), .ref aS, .int (nI hs), .ref aI, .int (nI ty), .int ea, .int ra, .int (nI wy), .int wd, .ref aL, .int (nI ln), .int (nI ((if iR d (G 0) then 0 else 1))), .int (nI sp), .int (nI iw), .ref aT])), (aG, .inl (cI, 128, .inl (gN G))), (aB, .inl (cI, 128, .inl (gN B))), (aH, .inl (cI, 1024, .inl (gN Hi))), (aS, .inl (cI, 128, .inl (gN Sv))), (aI, .inl (cI, 60, .inl (gN In))), (aL, .inl (cC, 40, .inl (gN Le))), (aT, .inl (cI, 360, .inl To))] A) 0 0 A := by
  refine nv_met (cc := cX7_twins) (maxL := 4) (ret := (some .int)) (by decide) rfl (Nat.le_of_ble_eq_true rfl) ?_
  intro p0 e0 s m0 args below meth c0 Q hq hargs hnA hpre ls hl
  obtain ⟨hx, hb, hr, hts, hown, hlocks, hml⟩ := hnA
  obtain ⟨hP, hK⟩ := hpre
  have hown : s.vm.findClass RX7 = some m0.cls := hown
  have hP : va_P D vwCl [(h, .inr (9, [.ref aG, .ref aB, .ref aH, .int (nI ch), .ref aS, .int (nI hs), .ref aI, .int (nI ty), .int ea, .int ra, .int (nI wy), .int wd, .ref aL, .int (nI ln), .int (nI th), .int (nI sp), .int (nI iw), .ref aT])), (aG, .inl (cI, 128, .inl (gN G))), (aB, .inl (cI, 128, .inl (gN B))), (aH, .inl (cI, 1024, .inl (gN Hi))), (aS, .inl (cI, 128, .inl (gN Sv))), (aI, .inl (cI, 60, .inl (gN In))), (aL, .inl (cC, 40, .inl (gN Le))), (aT, .inl (cI, 360, .inl To))] s.heap := hP
  have hl : lv_has ls 4 [(0, .ref h), (1, .int d)] := hl
  have hS : va_S A s.heap s.heap [] := va_S.rf
  have in_X7 : ∀ w ∈ wsX70, w ∈ wsX7_twins := by decide +kernel
  have fl_7 := hts (.fieldLink RX7 7 "DoorDialectModel" "g" "[I") (by decide +kernel)
  obtain ⟨g_b, g_k, g_0, g_1, g_2, g_e, g_d, g_t, g_y, g_s, g_h⟩ := id hG
  refine lv_aload_n hx hb dX7_twins_0 rfl (lv_at hl 0 rfl) ?_
  refine lv_iload_n hx hb dX7_twins_1 rfl (lv_at hl 1 rfl) ?_
  refine nv_kS (va_runV (As := [.int d]) (rest := []) ⟨hx, hb, hml, hown, hts⟩ (c_X7_isDoor l (d) (by omega)) (cwV 1 hts gX7_twins_X7_isDoor rfl rfl rfl (by decide +kernel) ⟨Nat.le_of_ble_eq_true rfl, Nat.le_of_ble_eq_true rfl⟩) (nv_pV hK hP (va_recv hK.1 hP (ci := 9) (q0 := 0) rfl rfl)) rfl rfl hl.1 rfl (lv_room (Nat.le_of_ble_eq_true rfl)) dX7_twins_2 ⟨Nat.zero_le _, Nat.zero_le _⟩) ?_
  refine nv_ifb_ne (tgt := 14) hx hb dX7_twins_5 (by decide) (fun c1 => ?_) (fun c1 => ?_)
  · obtain ⟨dk, h_dk, rfl⟩ := iR_of c1 (by omega)
    have et_dk : tN (nI dk) = dk := tN_nI (by omega)
    obtain ⟨w_a, w_g, w_n, w_s, w_w, w_l, w_o, w_x, w_y, w_1, w_2, w_3, w_4⟩ := hG.door (d := dk) (by omega)
    have hcc := gWf_case hG (d := dk) (by omega)
    have hee := gEnd_lt hG (d := dk) (by omega)
    refine lv_iconst (v := nI 0) hx hb dX7_twins_14 (by decide) ?_
    refine lv_istore_n (lv' := [(2, .int (nI 0)), (0, .ref h), (1, .int (nI dk))]) hx hb dX7_twins_15 rfl hl (by decide) rfl (fun ls hl => ?_)
    refine lv_iconst (v := nI 0) hx hb dX7_twins_16 (by decide) ?_
    refine lv_istore_n (lv' := [(3, .int (nI 0)), (2, .int (nI 0)), (0, .ref h), (1, .int (nI dk))]) hx hb dX7_twins_17 rfl hl (by decide) rfl (fun ls hl => ?_)
    have hloop2 : ∀ (nn : Nat) (k : Nat), (k ≤ G 0) → G 0 - k < nn → ∀ (H : Heap) (locs : List Loc), va_P D vwCl [(h, .inr (9, [.ref aG, .ref aB, .ref aH, .int (nI ch), .ref aS, .int (nI hs), .ref aI, .int (nI ty), .int ea, .int ra, .int (nI wy), .int wd, .ref aL, .int (nI ln), .int (nI th), .int (nI sp), .int (nI iw), .ref aT])), (aG, .inl (cI, 128, .inl (gN G))), (aB, .inl (cI, 128, .inl (gN B))), (aH, .inl (cI, 1024, .inl (gN Hi))), (aS, .inl (cI, 128, .inl (gN Sv))), (aI, .inl (cI, 60, .inl (gN In))), (aL, .inl (cC, 40, .inl (gN Le))), (aT, .inl (cI, 360, .inl To))] H → va_S A s.heap H locs → ∀ (ls : Array Slot), lv_has ls 4 [(3, .int (nI k)), (2, .int (nI (bs (fun k => gAlike G dk k) k))), (0, .ref h), (1, .int (nI dk))] → W p0 l e0 ({ frames := 3, cells := 0, slots := 0, locals := 65 }) s m0 args below meth c0 H locs 0 0 Q (F0 m0 18 ls []) := by
      intro nn18
      induction nn18 with
      | zero => intro k hk hn0 _ _ _ _ _ _; exact absurd hn0 (Nat.not_lt_zero _)
      | succ nn18 ih18 =>
        intro k hk hn18 H locs hP hS ls hl
        have hP : va_P D vwCl [(h, .inr (9, [.ref aG, .ref aB, .ref aH, .int (nI ch), .ref aS, .int (nI hs), .ref aI, .int (nI ty), .int ea, .int ra, .int (nI wy), .int wd, .ref aL, .int (nI ln), .int (nI th), .int (nI sp), .int (nI iw), .ref aT])), (aG, .inl (cI, 128, .inl (gN G))), (aB, .inl (cI, 128, .inl (gN B))), (aH, .inl (cI, 1024, .inl (gN Hi))), (aS, .inl (cI, 128, .inl (gN Sv))), (aI, .inl (cI, 60, .inl (gN In))), (aL, .inl (cC, 40, .inl (gN Le))), (aT, .inl (cI, 360, .inl To))] H := hP
        refine lv_iload_n hx hb dX7_twins_18 rfl (lv_at hl 0 rfl) ?_
        refine lv_aload_n hx hb dX7_twins_19 rfl (lv_at hl 2 rfl) ?_
        refine va_get (D := D) (ci := 9) (v := .ref aG) (C := RX7) (T := TX7) (N := 18) hx hb hts in_X7 hown hK.1 hP 0 rfl rfl 0 (by decide) fl_7 (fun _ h9 => h9) rfl dX7_twins_20 ?_
        refine lv_iconst (v := nI 0) hx hb dX7_twins_23 (by decide) ?_
        refine nv_gald (i := 0) hx hb hK.1 hP 1 0 rfl rfl (by first | omega | (simp only [gEndAt]; omega)) (by decide) dX7_twins_24 ?_
        have q3 : G 0 < 2 ^ 20 := hG.lt (k := 0) (by omega)
        refine nv_icmp_ge (tgt := 53) hx hb dX7_twins_25 (by decide) (by omega) (by omega) (fun c4 => ?_) (fun c4 => ?_)
        · refine lv_aload_n hx hb dX7_twins_53 rfl (lv_at hl 2 rfl) ?_
          refine lv_iload_n hx hb dX7_twins_54 rfl (lv_at hl 1 rfl) ?_
          refine nv_kM (va_runV (As := [.int (nI (bs (fun k => gAlike G dk k) k))]) (rest := []) ⟨hx, hb, hml, hown, hts⟩ (c_X7_done l hD (nI (bs (fun k => gAlike G dk k) k))) (cwV 1 hts gX7_twins_X7_done rfl rfl rfl (by decide +kernel) ⟨Nat.le_of_ble_eq_true rfl, Nat.le_of_ble_eq_true rfl⟩) (nv_pV hK hP (va_recv hK.1 hP (ci := 9) (q0 := 0) rfl rfl)) rfl rfl hl.1 rfl (lv_room (Nat.le_of_ble_eq_true rfl)) dX7_twins_55 ⟨Nat.zero_le _, Nat.zero_le _⟩) hS (fun H locs hP hS => ?_)
          have hP : va_P D vwCl [(h, .inr (9, [.ref aG, .ref aB, .ref aH, .int (nI ch), .ref aS, .int (nI hs), .ref aI, .int (nI ty), .int ea, .int ra, .int (nI wy), .int wd, .ref aL, .int (nI ln), .int (nI 0), .int (nI sp), .int (nI iw), .ref aT])), (aG, .inl (cI, 128, .inl (gN G))), (aB, .inl (cI, 128, .inl (gN B))), (aH, .inl (cI, 1024, .inl (gN Hi))), (aS, .inl (cI, 128, .inl (gN Sv))), (aI, .inl (cI, 60, .inl (gN In))), (aL, .inl (cC, 40, .inl (gN Le))), (aT, .inl (cI, 360, .inl To))] H := hP
          exact nv_retM hq hx hb hr hlocks (nar_i _) (by rw [if_pos c1, et_dk]; rw [show k = G 0 by omega] <;> rfl) hS hP (by rw [if_pos c1]) dX7_twins_58
        · refine lv_iload_n hx hb dX7_twins_28 rfl (lv_at hl 1 rfl) ?_
          refine lv_aload_n hx hb dX7_twins_29 rfl (lv_at hl 2 rfl) ?_
          refine lv_iload_n hx hb dX7_twins_30 rfl (lv_at hl 3 rfl) ?_
          refine lv_iload_n hx hb dX7_twins_31 rfl (lv_at hl 0 rfl) ?_
          refine nv_kS (va_runV (As := [.int (nI dk), .int (nI k)]) (rest := [.int (nI (bs (fun k => gAlike G dk k) k))]) ⟨hx, hb, hml, hown, hts⟩ (c_X7_isAlike l hG dk k (by omega) (by omega)) (cwV 2 hts gX7_twins_X7_isAlike rfl rfl rfl (by decide +kernel) ⟨Nat.le_of_ble_eq_true rfl, Nat.le_of_ble_eq_true rfl⟩) (nv_pV hK hP (va_recv hK.1 hP (ci := 9) (q0 := 0) rfl rfl)) rfl rfl hl.1 rfl (lv_room (Nat.le_of_ble_eq_true rfl)) dX7_twins_32 ⟨Nat.zero_le _, Nat.zero_le _⟩) ?_
          refine nv_jn (α := Nat) (fun r => W p0 l e0 ({ frames := 3, cells := 0, slots := 0, locals := 65 }) s m0 args below meth c0 H locs 0 0 Q (F0 m0 45 ls (.int (nI r) :: [.int (nI (bs (fun k => gAlike G dk k) k))]))) ((if gAlike G dk k then 1 <<< k else 0)) (fun r er => ?_) (fun hJ => ?_)
          · subst er
            refine lv_ior hx hb dX7_twins_45 ?_
            refine nv_to (bs (fun k => gAlike G dk k) (k + 1)) (nv_bor (P := fun k => gAlike G dk k) rfl) ?_
            refine lv_istore_n (lv' := [(2, .int (nI (bs (fun k => gAlike G dk k) (k + 1)))), (3, .int (nI k)), (0, .ref h), (1, .int (nI dk))]) hx hb dX7_twins_46 rfl hl (by decide) rfl (fun ls hl => ?_)
            refine lv_iinc (v := nI (k + 1)) (lv' := [(3, .int (nI (k + 1))), (2, .int (nI (bs (fun k => gAlike G dk k) (k + 1)))), (0, .ref h), (1, .int (nI dk))]) hx hb dX7_twins_47 hl (k := 1) rfl (by show nI _ + Int32.ofInt 1 = _; exact nI_add _ 1) (by decide) rfl (fun ls hl => ?_)
            refine lv_goto (tgt := 18) hx hb dX7_twins_50 (by decide) ?_
            exact ih18  (k + 1) ((by omega)) (by omega) _ _ hP hS ls (lv_sub hl [0, 1, 2, 3] rfl)
          · refine nv_ifb_eq (tgt := 44) hx hb dX7_twins_35 (by decide) (fun c5 => ?_) (fun c5 => ?_)
            · refine lv_iconst (v := nI 0) hx hb dX7_twins_44 (by decide) ?_
              exact hJ _ (if_neg c5).symm
            · refine lv_iconst (v := nI 1) hx hb dX7_twins_38 (by decide) ?_
              refine lv_iload_n hx hb dX7_twins_39 rfl (lv_at hl 0 rfl) ?_
              refine lv_ishl hx hb dX7_twins_40 ?_
              refine nv_to (1 <<< k) (nv_1shl (by omega)) ?_
              refine lv_goto (tgt := 45) hx hb dX7_twins_41 (by decide) ?_
              exact hJ _ (if_pos c5).symm
    exact hloop2 _ 0 ((Nat.zero_le _)) (Nat.lt_succ_self _) _ _ hP hS ls (lv_sub hl [0, 1, 2, 3] rfl)
  · refine lv_aload_n hx hb dX7_twins_8 rfl (lv_at hl 0 rfl) ?_
    refine lv_iconst (v := nI 1) hx hb dX7_twins_9 (by decide) ?_
    refine nv_kM (va_runV (As := [.int (nI 1)]) (rest := []) ⟨hx, hb, hml, hown, hts⟩ (c_X7_fails l hD 1) (cwV 1 hts gX7_twins_X7_fails rfl rfl rfl (by decide +kernel) ⟨Nat.le_of_ble_eq_true rfl, Nat.le_of_ble_eq_true rfl⟩) (nv_pV hK hP (va_recv hK.1 hP (ci := 9) (q0 := 0) rfl rfl)) rfl rfl hl.1 rfl (lv_room (Nat.le_of_ble_eq_true rfl)) dX7_twins_10 ⟨Nat.zero_le _, Nat.zero_le _⟩) hS (fun H locs hP hS => ?_)
    have hP : va_P D vwCl [(h, .inr (9, [.ref aG, .ref aB, .ref aH, .int (nI ch), .ref aS, .int (nI hs), .ref aI, .int (nI ty), .int ea, .int ra, .int (nI wy), .int wd, .ref aL, .int (nI ln), .int (nI 1), .int (nI sp), .int (nI iw), .ref aT])), (aG, .inl (cI, 128, .inl (gN G))), (aB, .inl (cI, 128, .inl (gN B))), (aH, .inl (cI, 1024, .inl (gN Hi))), (aS, .inl (cI, 128, .inl (gN Sv))), (aI, .inl (cI, 60, .inl (gN In))), (aL, .inl (cC, 40, .inl (gN Le))), (aT, .inl (cI, 360, .inl To))] H := hP
    exact nv_retM hq hx hb hr hlocks (nar_i _) (by rw [if_neg c1] <;> rfl) hS hP (by rw [if_neg c1]) dX7_twins_13

set_option maxHeartbeats 1000000 in
set_option maxRecDepth 100000 in
theorem c_X7_keysFor (l : Launch) {D : va_G} {cI cC : ClassId} {h aG aB aH aS aI aL aT : Nat} {G B Hi Sv In Le : Nat → Nat} {To : Nat → Int32} {ch hs ty wy ln th sp iw : Nat} {ea ra wd : Int32} {A : Nat → Prop} (hD : ∀ (G B Hi Sv In Le : Nat → Nat) (To : Nat → Int32) (fs : List Value), va_D A [(h, .inr (9, fs)), (aG, .inl (cI, 128, .inl (gN G))), (aB, .inl (cI, 128, .inl (gN B))), (aH, .inl (cI, 1024, .inl (gN Hi))), (aS, .inl (cI, 128, .inl (gN Sv))), (aI, .inl (cI, 60, .inl (gN In))), (aL, .inl (cC, 40, .inl (gN Le))), (aT, .inl (cI, 360, .inl To))]) {b : Nat} (hG : gWf b G) (d : Int32) : Met l yX7_keysFor wsX7_keysFor ({ frames := 2, cells := 0, slots := 0, locals := 43 }) (va_Pc [.ref h, .int d] (sPre D [(cI, .int), (cC, .char)] [] (fun H => va_P D vwCl [(h, .inr (9, [.ref aG, .ref aB, .ref aH, .int (nI ch), .ref aS, .int (nI hs), .ref aI, .int (nI ty), .int ea, .int ra, .int (nI wy), .int wd, .ref aL, .int (nI ln), .int (nI th), .int (nI sp), .int (nI iw), .ref aT])), (aG, .inl (cI, 128, .inl (gN G))), (aB, .inl (cI, 128, .inl (gN B))), (aH, .inl (cI, 1024, .inl (gN Hi))), (aS, .inl (cI, 128, .inl (gN Sv))), (aI, .inl (cI, 60, .inl (gN In))), (aL, .inl (cC, 40, .inl (gN Le))), (aT, .inl (cI, 360, .inl To))] H))) (mQ D ((if iR d (G 0) then nI (gKeys G (tN d)) else 0)) [(h, .inr (9, [.ref aG, .ref aB, .ref aH, .int (nI ch), .ref aS, .int (nI hs), .ref aI, .int (nI ty), .int ea, .int ra, .int (nI wy), .int wd, .ref aL, .int (nI ln), .int (nI ((if iR d (G 0) then 0 else 1))), .int (nI sp), .int (nI iw), .ref aT])), (aG, .inl (cI, 128, .inl (gN G))), (aB, .inl (cI, 128, .inl (gN B))), (aH, .inl (cI, 1024, .inl (gN Hi))), (aS, .inl (cI, 128, .inl (gN Sv))), (aI, .inl (cI, 60, .inl (gN In))), (aL, .inl (cC, 40, .inl (gN Le))), (aT, .inl (cI, 360, .inl To))] A) 0 0 A := by
  refine nv_met (cc := cX7_keysFor) (maxL := 4) (ret := (some .int)) (by decide) rfl (Nat.le_of_ble_eq_true rfl) ?_
  intro p0 e0 s m0 args below meth c0 Q hq hargs hnA hpre ls hl
  obtain ⟨hx, hb, hr, hts, hown, hlocks, hml⟩ := hnA
  obtain ⟨hP, hK⟩ := hpre
  have hown : s.vm.findClass RX7 = some m0.cls := hown
  have hP : va_P D vwCl [(h, .inr (9, [.ref aG, .ref aB, .ref aH, .int (nI ch), .ref aS, .int (nI hs), .ref aI, .int (nI ty), .int ea, .int ra, .int (nI wy), .int wd, .ref aL, .int (nI ln), .int (nI th), .int (nI sp), .int (nI iw), .ref aT])), (aG, .inl (cI, 128, .inl (gN G))), (aB, .inl (cI, 128, .inl (gN B))), (aH, .inl (cI, 1024, .inl (gN Hi))), (aS, .inl (cI, 128, .inl (gN Sv))), (aI, .inl (cI, 60, .inl (gN In))), (aL, .inl (cC, 40, .inl (gN Le))), (aT, .inl (cI, 360, .inl To))] s.heap := hP
  have hl : lv_has ls 4 [(0, .ref h), (1, .int d)] := hl
  have hS : va_S A s.heap s.heap [] := va_S.rf
  have in_X7 : ∀ w ∈ wsX70, w ∈ wsX7_keysFor := by decide +kernel
  have fl_7 := hts (.fieldLink RX7 7 "DoorDialectModel" "g" "[I") (by decide +kernel)
  obtain ⟨g_b, g_k, g_0, g_1, g_2, g_e, g_d, g_t, g_y, g_s, g_h⟩ := id hG
  refine lv_aload_n hx hb dX7_keysFor_0 rfl (lv_at hl 0 rfl) ?_
  refine lv_iload_n hx hb dX7_keysFor_1 rfl (lv_at hl 1 rfl) ?_
  refine nv_kS (va_runV (As := [.int d]) (rest := []) ⟨hx, hb, hml, hown, hts⟩ (c_X7_isDoor l (d) (by omega)) (cwV 1 hts gX7_keysFor_X7_isDoor rfl rfl rfl (by decide +kernel) ⟨Nat.le_of_ble_eq_true rfl, Nat.le_of_ble_eq_true rfl⟩) (nv_pV hK hP (va_recv hK.1 hP (ci := 9) (q0 := 0) rfl rfl)) rfl rfl hl.1 rfl (lv_room (Nat.le_of_ble_eq_true rfl)) dX7_keysFor_2 ⟨Nat.zero_le _, Nat.zero_le _⟩) ?_
  refine nv_ifb_ne (tgt := 14) hx hb dX7_keysFor_5 (by decide) (fun c1 => ?_) (fun c1 => ?_)
  · obtain ⟨dk, h_dk, rfl⟩ := iR_of c1 (by omega)
    have et_dk : tN (nI dk) = dk := tN_nI (by omega)
    obtain ⟨w_a, w_g, w_n, w_s, w_w, w_l, w_o, w_x, w_y, w_1, w_2, w_3, w_4⟩ := hG.door (d := dk) (by omega)
    have hcc := gWf_case hG (d := dk) (by omega)
    have hee := gEnd_lt hG (d := dk) (by omega)
    refine lv_iconst (v := nI 0) hx hb dX7_keysFor_14 (by decide) ?_
    refine lv_istore_n (lv' := [(2, .int (nI 0)), (0, .ref h), (1, .int (nI dk))]) hx hb dX7_keysFor_15 rfl hl (by decide) rfl (fun ls hl => ?_)
    refine lv_iconst (v := nI 0) hx hb dX7_keysFor_16 (by decide) ?_
    refine lv_istore_n (lv' := [(3, .int (nI 0)), (2, .int (nI 0)), (0, .ref h), (1, .int (nI dk))]) hx hb dX7_keysFor_17 rfl hl (by decide) rfl (fun ls hl => ?_)
    have hloop2 : ∀ (nn : Nat) (k : Nat), (k ≤ G 2) → G 2 - k < nn → ∀ (H : Heap) (locs : List Loc), va_P D vwCl [(h, .inr (9, [.ref aG, .ref aB, .ref aH, .int (nI ch), .ref aS, .int (nI hs), .ref aI, .int (nI ty), .int ea, .int ra, .int (nI wy), .int wd, .ref aL, .int (nI ln), .int (nI th), .int (nI sp), .int (nI iw), .ref aT])), (aG, .inl (cI, 128, .inl (gN G))), (aB, .inl (cI, 128, .inl (gN B))), (aH, .inl (cI, 1024, .inl (gN Hi))), (aS, .inl (cI, 128, .inl (gN Sv))), (aI, .inl (cI, 60, .inl (gN In))), (aL, .inl (cC, 40, .inl (gN Le))), (aT, .inl (cI, 360, .inl To))] H → va_S A s.heap H locs → ∀ (ls : Array Slot), lv_has ls 4 [(3, .int (nI k)), (2, .int (nI (bs (fun k => gFit G k (G (32 + dk)) (G (40 + dk)) = 2) k))), (0, .ref h), (1, .int (nI dk))] → W p0 l e0 ({ frames := 2, cells := 0, slots := 0, locals := 43 }) s m0 args below meth c0 H locs 0 0 Q (F0 m0 18 ls []) := by
      intro nn18
      induction nn18 with
      | zero => intro k hk hn0 _ _ _ _ _ _; exact absurd hn0 (Nat.not_lt_zero _)
      | succ nn18 ih18 =>
        intro k hk hn18 H locs hP hS ls hl
        have hP : va_P D vwCl [(h, .inr (9, [.ref aG, .ref aB, .ref aH, .int (nI ch), .ref aS, .int (nI hs), .ref aI, .int (nI ty), .int ea, .int ra, .int (nI wy), .int wd, .ref aL, .int (nI ln), .int (nI th), .int (nI sp), .int (nI iw), .ref aT])), (aG, .inl (cI, 128, .inl (gN G))), (aB, .inl (cI, 128, .inl (gN B))), (aH, .inl (cI, 1024, .inl (gN Hi))), (aS, .inl (cI, 128, .inl (gN Sv))), (aI, .inl (cI, 60, .inl (gN In))), (aL, .inl (cC, 40, .inl (gN Le))), (aT, .inl (cI, 360, .inl To))] H := hP
        refine lv_iload_n hx hb dX7_keysFor_18 rfl (lv_at hl 0 rfl) ?_
        refine lv_aload_n hx hb dX7_keysFor_19 rfl (lv_at hl 2 rfl) ?_
        refine va_get (D := D) (ci := 9) (v := .ref aG) (C := RX7) (T := TX7) (N := 18) hx hb hts in_X7 hown hK.1 hP 0 rfl rfl 0 (by decide) fl_7 (fun _ h9 => h9) rfl dX7_keysFor_20 ?_
        refine lv_iconst (v := nI 2) hx hb dX7_keysFor_23 (by decide) ?_
        refine nv_gald (i := 2) hx hb hK.1 hP 1 0 rfl rfl (by first | omega | (simp only [gEndAt]; omega)) (by decide) dX7_keysFor_24 ?_
        have q3 : G 2 < 2 ^ 20 := hG.lt (k := 2) (by omega)
        refine nv_icmp_ge (tgt := 71) hx hb dX7_keysFor_25 (by decide) (by omega) (by omega) (fun c4 => ?_) (fun c4 => ?_)
        · refine lv_aload_n hx hb dX7_keysFor_71 rfl (lv_at hl 2 rfl) ?_
          refine lv_iload_n hx hb dX7_keysFor_72 rfl (lv_at hl 1 rfl) ?_
          refine nv_kM (va_runV (As := [.int (nI (bs (fun k => gFit G k (G (32 + dk)) (G (40 + dk)) = 2) k))]) (rest := []) ⟨hx, hb, hml, hown, hts⟩ (c_X7_done l hD (nI (bs (fun k => gFit G k (G (32 + dk)) (G (40 + dk)) = 2) k))) (cwV 1 hts gX7_keysFor_X7_done rfl rfl rfl (by decide +kernel) ⟨Nat.le_of_ble_eq_true rfl, Nat.le_of_ble_eq_true rfl⟩) (nv_pV hK hP (va_recv hK.1 hP (ci := 9) (q0 := 0) rfl rfl)) rfl rfl hl.1 rfl (lv_room (Nat.le_of_ble_eq_true rfl)) dX7_keysFor_73 ⟨Nat.zero_le _, Nat.zero_le _⟩) hS (fun H locs hP hS => ?_)
          have hP : va_P D vwCl [(h, .inr (9, [.ref aG, .ref aB, .ref aH, .int (nI ch), .ref aS, .int (nI hs), .ref aI, .int (nI ty), .int ea, .int ra, .int (nI wy), .int wd, .ref aL, .int (nI ln), .int (nI 0), .int (nI sp), .int (nI iw), .ref aT])), (aG, .inl (cI, 128, .inl (gN G))), (aB, .inl (cI, 128, .inl (gN B))), (aH, .inl (cI, 1024, .inl (gN Hi))), (aS, .inl (cI, 128, .inl (gN Sv))), (aI, .inl (cI, 60, .inl (gN In))), (aL, .inl (cC, 40, .inl (gN Le))), (aT, .inl (cI, 360, .inl To))] H := hP
          exact nv_retM hq hx hb hr hlocks (nar_i _) (by rw [if_pos c1, et_dk]; rw [show k = G 2 by omega] <;> rfl) hS hP (by rw [if_pos c1]) dX7_keysFor_76
        · refine lv_iload_n hx hb dX7_keysFor_28 rfl (lv_at hl 1 rfl) ?_
          refine lv_aload_n hx hb dX7_keysFor_29 rfl (lv_at hl 2 rfl) ?_
          refine lv_iload_n hx hb dX7_keysFor_30 rfl (lv_at hl 0 rfl) ?_
          refine lv_aload_n hx hb dX7_keysFor_31 rfl (lv_at hl 2 rfl) ?_
          refine va_get (D := D) (ci := 9) (v := .ref aG) (C := RX7) (T := TX7) (N := 18) hx hb hts in_X7 hown hK.1 hP 0 rfl rfl 0 (by decide) fl_7 (fun _ h9 => h9) rfl dX7_keysFor_32 ?_
          refine lv_bipush (v := nI 32) hx hb dX7_keysFor_35 (by decide) ?_
          refine lv_iload_n hx hb dX7_keysFor_37 rfl (lv_at hl 3 rfl) ?_
          refine nv_iadd hx hb dX7_keysFor_38 ?_
          refine nv_gald (i := 32 + dk) hx hb hK.1 hP 1 0 rfl rfl (by first | omega | (simp only [gEndAt]; omega)) (by decide) dX7_keysFor_39 ?_
          have q5 : G (32 + dk) < 2 ^ 20 := hG.lt (k := 32 + dk) (by omega)
          refine lv_aload_n hx hb dX7_keysFor_40 rfl (lv_at hl 2 rfl) ?_
          refine va_get (D := D) (ci := 9) (v := .ref aG) (C := RX7) (T := TX7) (N := 18) hx hb hts in_X7 hown hK.1 hP 0 rfl rfl 0 (by decide) fl_7 (fun _ h9 => h9) rfl dX7_keysFor_41 ?_
          refine lv_bipush (v := nI 40) hx hb dX7_keysFor_44 (by decide) ?_
          refine lv_iload_n hx hb dX7_keysFor_46 rfl (lv_at hl 3 rfl) ?_
          refine nv_iadd hx hb dX7_keysFor_47 ?_
          refine nv_gald (i := 40 + dk) hx hb hK.1 hP 1 0 rfl rfl (by first | omega | (simp only [gEndAt]; omega)) (by decide) dX7_keysFor_48 ?_
          have q6 : G (40 + dk) < 2 ^ 20 := hG.lt (k := 40 + dk) (by omega)
          refine nv_kS (va_runV (As := [.int (nI k), .int (nI (G (32 + dk))), .int (nI (G (40 + dk)))]) (rest := [.int (nI (bs (fun k => gFit G k (G (32 + dk)) (G (40 + dk)) = 2) k))]) ⟨hx, hb, hml, hown, hts⟩ (c_X7_fits l hG k (G (32 + dk)) (G (40 + dk)) (by omega) (by omega) (by omega)) (cwV 3 hts gX7_keysFor_X7_fits rfl rfl rfl (by decide +kernel) ⟨Nat.le_of_ble_eq_true rfl, Nat.le_of_ble_eq_true rfl⟩) (nv_pV hK hP (va_recv hK.1 hP (ci := 9) (q0 := 0) rfl rfl)) rfl rfl hl.1 rfl (lv_room (Nat.le_of_ble_eq_true rfl)) dX7_keysFor_49 ⟨Nat.zero_le _, Nat.zero_le _⟩) ?_
          refine lv_iconst (v := nI 2) hx hb dX7_keysFor_52 (by decide) ?_
          refine nv_jn (α := Nat) (fun r => W p0 l e0 ({ frames := 2, cells := 0, slots := 0, locals := 43 }) s m0 args below meth c0 H locs 0 0 Q (F0 m0 63 ls (.int (nI r) :: [.int (nI (bs (fun k => gFit G k (G (32 + dk)) (G (40 + dk)) = 2) k))]))) ((if gFit G k (G (32 + dk)) (G (40 + dk)) = 2 then 1 <<< k else 0)) (fun r er => ?_) (fun hJ => ?_)
          · subst er
            refine lv_ior hx hb dX7_keysFor_63 ?_
            refine nv_to (bs (fun k => gFit G k (G (32 + dk)) (G (40 + dk)) = 2) (k + 1)) (nv_bor (P := fun k => gFit G k (G (32 + dk)) (G (40 + dk)) = 2) rfl) ?_
            refine lv_istore_n (lv' := [(2, .int (nI (bs (fun k => gFit G k (G (32 + dk)) (G (40 + dk)) = 2) (k + 1)))), (3, .int (nI k)), (0, .ref h), (1, .int (nI dk))]) hx hb dX7_keysFor_64 rfl hl (by decide) rfl (fun ls hl => ?_)
            refine lv_iinc (v := nI (k + 1)) (lv' := [(3, .int (nI (k + 1))), (2, .int (nI (bs (fun k => gFit G k (G (32 + dk)) (G (40 + dk)) = 2) (k + 1)))), (0, .ref h), (1, .int (nI dk))]) hx hb dX7_keysFor_65 hl (k := 1) rfl (by show nI _ + Int32.ofInt 1 = _; exact nI_add _ 1) (by decide) rfl (fun ls hl => ?_)
            refine lv_goto (tgt := 18) hx hb dX7_keysFor_68 (by decide) ?_
            exact ih18  (k + 1) ((by omega)) (by omega) _ _ hP hS ls (lv_sub hl [0, 1, 2, 3] rfl)
          · refine nv_icmp_ne (tgt := 62) hx hb dX7_keysFor_53 (by decide) (by first | decide | exact gFit_lt _ _ _ _) (by first | decide | exact gFit_lt _ _ _ _) (fun c7 => ?_) (fun c7 => ?_)
            · refine lv_iconst (v := nI 0) hx hb dX7_keysFor_62 (by decide) ?_
              exact hJ _ (if_neg c7).symm
            · refine lv_iconst (v := nI 1) hx hb dX7_keysFor_56 (by decide) ?_
              refine lv_iload_n hx hb dX7_keysFor_57 rfl (lv_at hl 0 rfl) ?_
              refine lv_ishl hx hb dX7_keysFor_58 ?_
              refine nv_to (1 <<< k) (nv_1shl (by omega)) ?_
              refine lv_goto (tgt := 63) hx hb dX7_keysFor_59 (by decide) ?_
              exact hJ _ (if_pos c7).symm
    exact hloop2 _ 0 ((Nat.zero_le _)) (Nat.lt_succ_self _) _ _ hP hS ls (lv_sub hl [0, 1, 2, 3] rfl)
  · refine lv_aload_n hx hb dX7_keysFor_8 rfl (lv_at hl 0 rfl) ?_
    refine lv_iconst (v := nI 1) hx hb dX7_keysFor_9 (by decide) ?_
    refine nv_kM (va_runV (As := [.int (nI 1)]) (rest := []) ⟨hx, hb, hml, hown, hts⟩ (c_X7_fails l hD 1) (cwV 1 hts gX7_keysFor_X7_fails rfl rfl rfl (by decide +kernel) ⟨Nat.le_of_ble_eq_true rfl, Nat.le_of_ble_eq_true rfl⟩) (nv_pV hK hP (va_recv hK.1 hP (ci := 9) (q0 := 0) rfl rfl)) rfl rfl hl.1 rfl (lv_room (Nat.le_of_ble_eq_true rfl)) dX7_keysFor_10 ⟨Nat.zero_le _, Nat.zero_le _⟩) hS (fun H locs hP hS => ?_)
    have hP : va_P D vwCl [(h, .inr (9, [.ref aG, .ref aB, .ref aH, .int (nI ch), .ref aS, .int (nI hs), .ref aI, .int (nI ty), .int ea, .int ra, .int (nI wy), .int wd, .ref aL, .int (nI ln), .int (nI 1), .int (nI sp), .int (nI iw), .ref aT])), (aG, .inl (cI, 128, .inl (gN G))), (aB, .inl (cI, 128, .inl (gN B))), (aH, .inl (cI, 1024, .inl (gN Hi))), (aS, .inl (cI, 128, .inl (gN Sv))), (aI, .inl (cI, 60, .inl (gN In))), (aL, .inl (cC, 40, .inl (gN Le))), (aT, .inl (cI, 360, .inl To))] H := hP
    exact nv_retM hq hx hb hr hlocks (nar_i _) (by rw [if_neg c1] <;> rfl) hS hP (by rw [if_neg c1]) dX7_keysFor_13

set_option maxHeartbeats 1000000 in
set_option maxRecDepth 100000 in
theorem c_X7_reached (l : Launch) {D : va_G} {cI cC : ClassId} {h aG aB aH aS aI aL aT : Nat} {G B Hi Sv In Le : Nat → Nat} {To : Nat → Int32} {ch hs ty wy ln th sp iw : Nat} {ea ra wd : Int32} {A : Nat → Prop} (hD : ∀ (G B Hi Sv In Le : Nat → Nat) (To : Nat → Int32) (fs : List Value), va_D A [(h, .inr (9, fs)), (aG, .inl (cI, 128, .inl (gN G))), (aB, .inl (cI, 128, .inl (gN B))), (aH, .inl (cI, 1024, .inl (gN Hi))), (aS, .inl (cI, 128, .inl (gN Sv))), (aI, .inl (cI, 60, .inl (gN In))), (aL, .inl (cC, 40, .inl (gN Le))), (aT, .inl (cI, 360, .inl To))]) {b : Nat} (hG : gWf b G) (r : Int32) : Met l yX7_reached wsX7_reached ({ frames := 2, cells := 0, slots := 0, locals := 48 }) (va_Pc [.ref h, .int r] (sPre D [(cI, .int), (cC, .char)] [] (fun H => va_P D vwCl [(h, .inr (9, [.ref aG, .ref aB, .ref aH, .int (nI ch), .ref aS, .int (nI hs), .ref aI, .int (nI ty), .int ea, .int ra, .int (nI wy), .int wd, .ref aL, .int (nI ln), .int (nI th), .int (nI sp), .int (nI iw), .ref aT])), (aG, .inl (cI, 128, .inl (gN G))), (aB, .inl (cI, 128, .inl (gN B))), (aH, .inl (cI, 1024, .inl (gN Hi))), (aS, .inl (cI, 128, .inl (gN Sv))), (aI, .inl (cI, 60, .inl (gN In))), (aL, .inl (cC, 40, .inl (gN Le))), (aT, .inl (cI, 360, .inl To))] H))) (mQ D ((if iR r 6 then nI (gRw G (tN r) (-1)) else 0)) [(h, .inr (9, [.ref aG, .ref aB, .ref aH, .int (nI ch), .ref aS, .int (nI hs), .ref aI, .int (nI ty), .int ea, .int ra, .int (nI wy), .int wd, .ref aL, .int (nI ln), .int (nI ((if iR r 6 then 0 else 1))), .int (nI sp), .int (nI iw), .ref aT])), (aG, .inl (cI, 128, .inl (gN G))), (aB, .inl (cI, 128, .inl (gN B))), (aH, .inl (cI, 1024, .inl (gN Hi))), (aS, .inl (cI, 128, .inl (gN Sv))), (aI, .inl (cI, 60, .inl (gN In))), (aL, .inl (cC, 40, .inl (gN Le))), (aT, .inl (cI, 360, .inl To))] A) 0 0 A := by
  refine nv_met (cc := cX7_reached) (maxL := 2) (ret := (some .int)) (by decide) rfl (Nat.le_of_ble_eq_true rfl) ?_
  intro p0 e0 s m0 args below meth c0 Q hq hargs hnA hpre ls hl
  obtain ⟨hx, hb, hr, hts, hown, hlocks, hml⟩ := hnA
  obtain ⟨hP, hK⟩ := hpre
  have hown : s.vm.findClass RX7 = some m0.cls := hown
  have hP : va_P D vwCl [(h, .inr (9, [.ref aG, .ref aB, .ref aH, .int (nI ch), .ref aS, .int (nI hs), .ref aI, .int (nI ty), .int ea, .int ra, .int (nI wy), .int wd, .ref aL, .int (nI ln), .int (nI th), .int (nI sp), .int (nI iw), .ref aT])), (aG, .inl (cI, 128, .inl (gN G))), (aB, .inl (cI, 128, .inl (gN B))), (aH, .inl (cI, 1024, .inl (gN Hi))), (aS, .inl (cI, 128, .inl (gN Sv))), (aI, .inl (cI, 60, .inl (gN In))), (aL, .inl (cC, 40, .inl (gN Le))), (aT, .inl (cI, 360, .inl To))] s.heap := hP
  have hl : lv_has ls 2 [(0, .ref h), (1, .int r)] := hl
  have hS : va_S A s.heap s.heap [] := va_S.rf
  obtain ⟨g_b, g_k, g_0, g_1, g_2, g_e, g_d, g_t, g_y, g_s, g_h⟩ := id hG
  refine lv_iload_n hx hb dX7_reached_0 rfl (lv_at hl 1 rfl) ?_
  refine nv_kS (va_runS (As := [.int r]) (rest := []) ⟨hx, hb, hml, hown, hts⟩ (c_X7_isRoom l (r)) (va_cwS 1 hts gX7_reached_X7_isRoom rfl rfl rfl (by decide +kernel) ⟨Nat.le_of_ble_eq_true rfl, Nat.le_of_ble_eq_true rfl⟩) (nv_pS hK trivial) rfl rfl hl.1 rfl (lv_room (Nat.le_of_ble_eq_true rfl)) dX7_reached_1 ⟨Nat.zero_le _, Nat.zero_le _⟩) ?_
  refine nv_ifb_eq (tgt := 20) hx hb dX7_reached_4 (by decide) (fun c1 => ?_) (fun c1 => ?_)
  · refine lv_aload_n hx hb dX7_reached_20 rfl (lv_at hl 0 rfl) ?_
    refine lv_iconst (v := nI 1) hx hb dX7_reached_21 (by decide) ?_
    refine nv_kM (va_runV (As := [.int (nI 1)]) (rest := []) ⟨hx, hb, hml, hown, hts⟩ (c_X7_fails l hD 1) (cwV 1 hts gX7_reached_X7_fails rfl rfl rfl (by decide +kernel) ⟨Nat.le_of_ble_eq_true rfl, Nat.le_of_ble_eq_true rfl⟩) (nv_pV hK hP (va_recv hK.1 hP (ci := 9) (q0 := 0) rfl rfl)) rfl rfl hl.1 rfl (lv_room (Nat.le_of_ble_eq_true rfl)) dX7_reached_22 ⟨Nat.zero_le _, Nat.zero_le _⟩) hS (fun H locs hP hS => ?_)
    have hP : va_P D vwCl [(h, .inr (9, [.ref aG, .ref aB, .ref aH, .int (nI ch), .ref aS, .int (nI hs), .ref aI, .int (nI ty), .int ea, .int ra, .int (nI wy), .int wd, .ref aL, .int (nI ln), .int (nI 1), .int (nI sp), .int (nI iw), .ref aT])), (aG, .inl (cI, 128, .inl (gN G))), (aB, .inl (cI, 128, .inl (gN B))), (aH, .inl (cI, 1024, .inl (gN Hi))), (aS, .inl (cI, 128, .inl (gN Sv))), (aI, .inl (cI, 60, .inl (gN In))), (aL, .inl (cC, 40, .inl (gN Le))), (aT, .inl (cI, 360, .inl To))] H := hP
    exact nv_retM hq hx hb hr hlocks (nar_i _) (by rw [if_neg c1] <;> rfl) hS hP (by rw [if_neg c1]) dX7_reached_25
  · obtain ⟨rk, h_rk, rfl⟩ := iR_of c1 (by decide)
    have et_rk : tN (nI rk) = rk := tN_nI (by omega)
    refine lv_aload_n hx hb dX7_reached_7 rfl (lv_at hl 0 rfl) ?_
    refine lv_aload_n hx hb dX7_reached_8 rfl (lv_at hl 0 rfl) ?_
    refine lv_iload_n hx hb dX7_reached_9 rfl (lv_at hl 1 rfl) ?_
    refine lv_iconst (v := (-1)) hx hb dX7_reached_10 (by decide) ?_
    refine nv_kS (va_runV (As := [.int (nI rk), .int ((-1))]) (rest := [.ref h]) ⟨hx, hb, hml, hown, hts⟩ (c_X7_reachedWith l hG rk ((-1)) (by omega)) (cwV 2 hts gX7_reached_X7_reachedWith rfl rfl rfl (by decide +kernel) ⟨Nat.le_of_ble_eq_true rfl, Nat.le_of_ble_eq_true rfl⟩) (nv_pV hK hP (va_recv hK.1 hP (ci := 9) (q0 := 0) rfl rfl)) rfl rfl hl.1 rfl (lv_room (Nat.le_of_ble_eq_true rfl)) dX7_reached_11 ⟨Nat.zero_le _, Nat.zero_le _⟩) ?_
    refine nv_kM (va_runV (As := [.int (nI (gRw G rk ((-1))))]) (rest := []) ⟨hx, hb, hml, hown, hts⟩ (c_X7_done l hD (nI (gRw G rk ((-1))))) (cwV 1 hts gX7_reached_X7_done rfl rfl rfl (by decide +kernel) ⟨Nat.le_of_ble_eq_true rfl, Nat.le_of_ble_eq_true rfl⟩) (nv_pV hK hP (va_recv hK.1 hP (ci := 9) (q0 := 0) rfl rfl)) rfl rfl hl.1 rfl (lv_room (Nat.le_of_ble_eq_true rfl)) dX7_reached_14 ⟨Nat.zero_le _, Nat.zero_le _⟩) hS (fun H locs hP hS => ?_)
    have hP : va_P D vwCl [(h, .inr (9, [.ref aG, .ref aB, .ref aH, .int (nI ch), .ref aS, .int (nI hs), .ref aI, .int (nI ty), .int ea, .int ra, .int (nI wy), .int wd, .ref aL, .int (nI ln), .int (nI 0), .int (nI sp), .int (nI iw), .ref aT])), (aG, .inl (cI, 128, .inl (gN G))), (aB, .inl (cI, 128, .inl (gN B))), (aH, .inl (cI, 1024, .inl (gN Hi))), (aS, .inl (cI, 128, .inl (gN Sv))), (aI, .inl (cI, 60, .inl (gN In))), (aL, .inl (cC, 40, .inl (gN Le))), (aT, .inl (cI, 360, .inl To))] H := hP
    refine lv_goto (tgt := 25) hx hb dX7_reached_17 (by decide) ?_
    exact nv_retM hq hx hb hr hlocks (nar_i _) (by rw [if_pos c1, et_rk]) hS hP (by rw [if_pos c1]) dX7_reached_25
