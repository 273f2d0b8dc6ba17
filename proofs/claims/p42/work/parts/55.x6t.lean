theorem wrL_agree {F K : Nat → Nat} : ∀ {l : List Nat} {n i : Nat}, n ≤ i → i < n + l.length → wrL l F n i = wrL l K n i := by
  have key : ∀ (l : List Nat) (F K : Nat → Nat) (n i : Nat), (F i = K i ∨ (n ≤ i ∧ i < n + l.length)) → wrL l F n i = wrL l K n i := by
    intro l
    induction l with
    | nil => intro F K n i h; exact h.elim id (fun q => absurd q.2 (by simp; omega))
    | cons c l ih =>
      intro F K n i h
      show wrL l (va_up F n c) (n + 1) i = wrL l (va_up K n c) (n + 1) i
      refine ih _ _ _ _ ?_
      by_cases e : i = n
      · exact Or.inl (by unfold va_up; rw [if_pos e, if_pos e])
      · rcases h with h | h
        · exact Or.inl (by unfold va_up; rw [if_neg e, if_neg e]; exact h)
        · have h2 := h.2
          rw [List.length_cons] at h2
          exact Or.inr ⟨by omega, by omega⟩
  intro l n i h1 h2
  exact key l F K n i (Or.inr ⟨h1, h2⟩)
theorem tx_of {D : va_G} {AD : Nat → Nat} {cC : ClassId} {H : Heap} {l : List Nat} {F0 Le : Nat → Nat} (hlen : l.length ≤ 16) (h : va_P D vwCl (tw cC (cAd AD 160) (wrL l F0 0) l.length) H) : cTx D cC AD (wrL l Le 0) l.length H :=
  ⟨_, fun _ hi => wrL_agree (Nat.zero_le _) (by omega), hlen, h⟩
theorem lnD_len (G : Nat → Nat) (d : Nat) : (lnD G d).length ≤ 10 := by
  unfold lnD
  by_cases h1 : G (56 + d) = 0
  · by_cases h2 : G (80 + d) = 1
    · rw [if_pos h1, if_pos h2]; exact Nat.le_of_ble_eq_true rfl
    · by_cases h3 : G (64 + d) = 0
      · rw [if_pos h1, if_neg h2, if_pos h3]; exact Nat.le_of_ble_eq_true rfl
      · rw [if_pos h1, if_neg h2, if_neg h3]; exact Nat.le_of_ble_eq_true rfl
  · by_cases h2 : G (80 + d) = 1
    · rw [if_neg h1, if_pos h2]; exact Nat.le_of_ble_eq_true rfl
    · by_cases h3 : G (64 + d) = 0
      · rw [if_neg h1, if_neg h2, if_pos h3]; exact Nat.le_of_ble_eq_true rfl
      · rw [if_neg h1, if_neg h2, if_neg h3]; exact Nat.le_of_ble_eq_true rfl
theorem fSg_0 {G : Nat → Nat} {d : Nat} (h : G (40 + d) ≤ 2) : fSg G d 0 = gl (G (40 + d)) := by
  have key : ∀ k, k ≤ 2 → sch 0 k = gl k := by decide +kernel
  exact key _ h
theorem fSg_1 {G : Nat → Nat} {d : Nat} (h : G (48 + d) ≤ 1) : fSg G d 1 = (if G (48 + d) = 1 then 100 else 115) := by
  have key : ∀ k, k ≤ 1 → sch 1 k = if k = 1 then 100 else 115 := by decide +kernel
  exact key _ h
theorem thr_z {z : Nat} (hz : z < 2 ^ 31) (h : nI z - nI 1 = -1) : z = 0 := by
  by_cases q : z = 0
  · exact q
  · rw [pk_sub (by omega)] at h
    have h9 := congrArg Int32.toInt h
    rw [nI_toInt (by omega)] at h9
    have h8 : (-1 : Int32).toInt = -1 := by decide
    omega
theorem gl_lt (x : Nat) : gl x < 128 := by unfold gl; split; decide; split <;> decide
theorem cTx.recv {D : va_G} {AD : Nat → Nat} {H : Heap} {cC : ClassId} {F : Nat → Nat} {n : Nat} {s : State} {tys : List (ClassId × FieldType)} (hK : va_K D vwCl tys s) (h : va_P D vwCl (tw cC (cAd AD 160) F n) H) : ∃ cell : Cell, H[AD 160]? = some cell ∧ cell.vm.isStatics = false ∧ s.vm.findClass RX4 = some cell.cls := va_recv hK h (ci := 6) (q0 := 0) rfl rfl

set_option maxHeartbeats 1000000 in
set_option maxRecDepth 100000 in
theorem c_X6_line (l : Launch) (hl9 : l.stackTraces = false) {D : va_G} {cI cC cD cR : ClassId} {sa : sA} {A : Nat → Prop} {AD : Nat → Nat} {G Sv Hi In Le : Nat → Nat} {b hs ch ty wy ln : Nat} {ea ra wd : Int32} (hG : gWf b G) (hI : cInj AD) (hAA : ∀ i, i < 165 → A (AD i)) (d : Int32) : vx_Met l yX6_line wsX6_line ({ frames := 7, cells := 1, slots := 6, locals := 107 }) (va_Pc [.ref (AD 0), .int d] (tPre D [(cI, .int), (cC, .char), (cD, .object "DoorDialect$Door"), (cR, .object "DoorDialect$House")] nN sa A (cW D cI cC cD cR AD G Sv Hi In Le hs ch ty wy ln ea ra wd))) (gQX (if iR d (G 0) then 0 else 1) ((if iR d (G 0) then nI (lnD G (tN d)).length else 0)) (cW D cI cC cD cR AD G Sv Hi In ((if iR d (G 0) then wrL (lnD G (tN d)) Le 0 else Le)) hs ch ty wy ((if iR d (G 0) then (lnD G (tN d)).length else ln)) ea ra wd) A) (xQ ["java/lang/IndexOutOfBoundsException"] (if iR d (G 0) then 0 else 1) (cW D cI cC cD cR AD G Sv Hi In ((if iR d (G 0) then wrL (lnD G (tN d)) Le 0 else Le)) hs ch ty wy ((if iR d (G 0) then (lnD G (tN d)).length else ln)) ea ra wd) A) 1 6 A := by
  refine nv_metX (cc := cX6_line) (maxL := 4) (ret := (some .int)) (by decide) rfl (Nat.le_of_ble_eq_true rfl) ?_
  intro p0 e0 s m0 args below meth c0 Q hq hargs hnA hout hpre ls hl
  obtain ⟨hx, hb, hr, hts, hown, hlocks, hml⟩ := hnA
  obtain ⟨hP, hT⟩ := hpre
  have hK := hT.1
  have hown : s.vm.findClass RX6 = some m0.cls := hown
  obtain ⟨hPo, ⟨u, hR, hk, hPh⟩, hPi, hPs, hPp, hPw, hPt⟩ := hP
  have hPo : va_P D vwCl (cOb AD (hs) (wy) (wd) (ea) (ra)) s.heap := hPo
  have hPh : va_P D vwCl (hw cI cD (cAd AD 1) u) s.heap := hPh
  have hl : lv_has ls 4 [(0, .ref (AD 0)), (1, .int d)] := hl
  have hS : va_S A s.heap s.heap [] := va_S.rf
  have in_X0 : ∀ w ∈ wsX00, w ∈ wsX6_line := by decide +kernel
  have in_X1 : ∀ w ∈ wsX10, w ∈ wsX6_line := by decide +kernel
  have in_X4 : ∀ w ∈ wsX40, w ∈ wsX6_line := by decide +kernel
  have in_X6 : ∀ w ∈ wsX60, w ∈ wsX6_line := by decide +kernel
  have fl_10 := hts (.fieldLink RX6 10 "DoorDialect" "house" "LDoorDialect$House;") (by decide +kernel)
  have fl_36 := hts (.fieldLink RX6 36 "DoorDialect" "text" "LDoorDialect$Text;") (by decide +kernel)
  have fl_128 := hts (.fieldLink RX6 128 "DoorDialect$House" "doors" "[LDoorDialect$Door;") (by decide +kernel)
  have fl_143 := hts (.fieldLink RX6 143 "DoorDialect$Door" "threshold" "I") (by decide +kernel)
  have fl_150 := hts (.fieldLink RX6 150 "DoorDialect$Door" "wrongKnocks" "I") (by decide +kernel)
  have fl_156 := hts (.fieldLink RX6 156 "DoorDialect$Door" "isOpen" "Z") (by decide +kernel)
  have fl_159 := hts (.fieldLink RX6 159 "DoorDialect$Door" "oneRoom" "I") (by decide +kernel)
  have fl_162 := hts (.fieldLink RX6 162 "DoorDialect$Door" "otherRoom" "I") (by decide +kernel)
  have fl_309 := hts (.fieldLink RX6 309 "DoorDialect$Text" "length" "I") (by decide +kernel)
  obtain ⟨g_b, g_k, g_0, g_1, g_2, g_e, g_d, g_t, g_y, g_s, g_h⟩ := id hG
  have zq0 : G 0 = G 0 := rfl
  have l3 := hG.lt (k := 3) (by decide)
  have l4 := hG.lt (k := 4) (by decide)
  have l5 := hG.lt (k := 5) (by decide)
  refine lv_aload_n hx hb dX6_line_0 rfl (lv_at hl 0 rfl) ?_
  refine lv_iload_n hx hb dX6_line_1 rfl (lv_at hl 1 rfl) ?_
  refine nv_kGXv (vx_runV (As := [.int d]) (rest := []) ⟨hx, hb, hml, hown, hts⟩ (c_X6_requireDoor l hl9 (A := fun _ => False) (J := cJ D cI cC cD cR AD u Sv Hi In Le hs ch ty wy ln ea ra wd) (fun _ _ h9 h8 => h8.grow h9) (fun _ h9 => h9.1) (fun _ h9 => h9.2.1) hR hG ((d))) (cwV 1 hts gX6_line_X6_requireDoor rfl rfl rfl (by decide +kernel) ⟨Nat.le_of_ble_eq_true rfl, Nat.le_of_ble_eq_true rfl⟩) (nt_pVn hT hS (fun _ h9 => h9.elim) ⟨hPo, hPh, hPi, hPs, hPp, hPw, hPt⟩ (va_recv hK.1 hPo (ci := 8) (q0 := 0) rfl rfl)) rfl rfl hl.1 rfl (lv_room (Nat.le_of_ble_eq_true rfl)) dX6_line_2 ⟨Nat.le_of_ble_eq_true rfl, Nat.le_of_ble_eq_true rfl⟩) hS (fun _ h9 => h9.elim) hq hout hlocks (Nat.le_of_ble_eq_true rfl) (Nat.le_of_ble_eq_true rfl) (fun H h0 hP1 hK1 => ?_) (fun H locs h0 hP1 hK1 hS => ?_)
  · have hn : ¬ iR ((d)) (G 0) := fun q => h0 (if_pos q)
    exact ⟨by rw [if_neg hn]; exact Nat.one_ne_zero, by first | rw [if_neg hn, if_neg hn] <;> rfl | rw [if_neg hn] <;> rfl, by rw [if_neg hn, if_neg hn]; exact hP1.W hR hk⟩
  obtain ⟨hPo, hPh, hPi, hPs, hPp, hPw, hPt⟩ := hP1
  have c1 : iR ((d)) (G 0) := if01 h0
  have c1k := c1
  obtain ⟨dk, h_dk, rfl⟩ := iR_of c1k (by omega)
  have et_dk : tN (nI dk) = dk := tN_nI (by omega)
  obtain ⟨w_a, w_g, w_n, w_s, w_w, w_l, w_o, w_x, w_y, w_1, w_2, w_3, w_4⟩ := hG.door (d := dk) (by omega)
  have hcc := gWf_case hG (d := dk) (by omega)
  have hee := gEnd_lt hG (d := dk) (by omega)
  refine lv_aload_n hx hb dX6_line_5 rfl (lv_at hl 0 rfl) ?_
  refine va_get (D := D) (ci := 8) (v := .ref ((cAd AD 1) 0)) (C := RX6) (T := TX6) (N := 11) hx hb hts in_X6 hown hK.1 hPo 0 rfl rfl 0 (by decide) fl_10 (fun _ h9 => h9) rfl dX6_line_6 ?_
  refine va_get (D := D) (ci := 3) (v := .ref ((cAd AD 1) 1)) (C := RX1) (T := TX1) (N := 12) hx hb hts in_X1 hown hK.1 hPh 0 rfl rfl 0 (by decide) fl_128 (fun _ h9 => h9) rfl dX6_line_9 ?_
  refine lv_iload_n hx hb dX6_line_12 rfl (lv_at hl 1 rfl) ?_
  refine nv_aldq (i := dk) hx hb hK.1 hPh 1 2 rfl rfl (by omega) (by decide) dX6_line_13 ?_
  refine lv_astore_n (lv' := [(2, .ref ((cAd AD 1) (6 + dk))), (0, .ref (AD 0)), (1, .int (nI dk))]) hx hb dX6_line_14 rfl hl (by decide) rfl (fun ls hl => ?_)
  obtain ⟨F9, hF9, hln9, hPt⟩ := hPt
  have hen := gEnd_le hG (d := dk) (by omega)
  refine lv_aload_n hx hb dX6_line_15 rfl (lv_at hl 1 rfl) ?_
  refine va_get (D := D) (ci := 8) (v := .ref ((cAd AD 160) 0)) (C := RX6) (T := TX6) (N := 11) hx hb hts in_X6 hown hK.1 hPo 0 rfl rfl 4 (by decide) fl_36 (fun _ h9 => h9) rfl dX6_line_16 ?_
  refine nv_kGv (va_runV (As := []) (rest := []) ⟨hx, hb, hml, hown, hts⟩ (c_X4_begin (x := cAd AD 160) l (fun _ _ => cD_of (b := 160) (n := 2) hI cAt_2 (by decide)) ) (cwV 0 hts gX6_line_X4_begin rfl rfl rfl (by decide +kernel) ⟨Nat.le_of_ble_eq_true rfl, Nat.le_of_ble_eq_true rfl⟩) (nt_pVn hT hS (cRg_A hAA (by decide)) hPt (cTx.recv hK.1 hPt)) rfl rfl hl.1 rfl (lv_room (Nat.le_of_ble_eq_true rfl)) dX6_line_19 ⟨Nat.le_of_ble_eq_true rfl, Nat.le_of_ble_eq_true rfl⟩) hS (cRg_A hAA (by decide)) (fun H locs hP1 hK1 hS => ?_)
  have hPt : va_P D vwCl (tw cC (cAd AD 160) F9 (0)) H := hP1
  have hPo := cOn_Ob.keep hI hK1 hPo (Or.inl (by decide)) (by decide) (by decide)
  have hPh := (cOn_P (cAt_hw 1)).keep hI hK1 hPh (Or.inl (by decide)) (by decide) (by decide)
  have hPs := cOn_Sv.keep hI hK1 hPs (Or.inl (by decide)) (by decide) (by decide)
  have hPp := cOn_Pa.keep hI hK1 hPp (Or.inl (by decide)) (by decide) (by decide)
  have hPw := cOn_Wk.keep hI hK1 hPw (Or.inl (by decide)) (by decide) (by decide)
  have hPi := cOn_In.keep hI hK1 hPi (Or.inr (by decide)) (by decide) (by decide)
  refine lv_iconst (v := nI 0) hx hb dX6_line_22 (by decide) ?_
  refine lv_istore_n (lv' := [(3, .int (nI 0)), (2, .ref ((cAd AD 1) (6 + dk))), (0, .ref (AD 0)), (1, .int (nI dk))]) hx hb dX6_line_23 rfl hl (by decide) rfl (fun ls hl => ?_)
  refine lv_iload_n hx hb dX6_line_24 rfl (lv_at hl 0 rfl) ?_
  refine lv_iconst (v := nI 3) hx hb dX6_line_25 (by decide) ?_
  refine nv_icmp_ge (tgt := 51) hx hb dX6_line_26 (by decide) (by omega) (by omega) (fun c2 => ?_) (fun c2 => ?_)
  · exact absurd c2 (by decide)
  · refine lv_aload_n hx hb dX6_line_29 rfl (lv_at hl 2 rfl) ?_
    refine va_get (D := D) (ci := 8) (v := .ref ((cAd AD 160) 0)) (C := RX6) (T := TX6) (N := 11) hx hb hts in_X6 hown hK.1 hPo 0 rfl rfl 4 (by decide) fl_36 (fun _ h9 => h9) rfl dX6_line_30 ?_
    refine lv_aload_n hx hb dX6_line_33 rfl (lv_at hl 2 rfl) ?_
    refine va_get (D := D) (ci := 8) (v := .ref ((cAd AD 1) 0)) (C := RX6) (T := TX6) (N := 11) hx hb hts in_X6 hown hK.1 hPo 0 rfl rfl 0 (by decide) fl_10 (fun _ h9 => h9) rfl dX6_line_34 ?_
    refine lv_aload_n hx hb dX6_line_37 rfl (lv_at hl 1 rfl) ?_
    refine lv_iload_n hx hb dX6_line_38 rfl (lv_at hl 0 rfl) ?_
    refine nv_kS (va_runV (As := [.ref ((cAd AD 1) (6 + dk)), .int (nI 0)]) (rest := [.ref ((cAd AD 160) 0)]) ⟨hx, hb, hml, hown, hts⟩ (c_X1_formSign l hR hG dk 0 (by omega) (by omega)) (cwV 2 hts gX6_line_X1_formSign rfl rfl rfl (by decide +kernel) ⟨Nat.le_of_ble_eq_true rfl, Nat.le_of_ble_eq_true rfl⟩) (nt_pV hT hS hPh (va_recv hK.1 hPh (ci := 3) (q0 := 0) rfl rfl)) rfl rfl hl.1 rfl (lv_room (Nat.le_of_ble_eq_true rfl)) dX6_line_39 ⟨Nat.le_of_ble_eq_true rfl, Nat.le_of_ble_eq_true rfl⟩) ?_
    refine nv_to (gl (G (40 + dk))) (congrArg nI (fSg_0 (by omega))) ?_
    have hgl := gl_lt (G (40 + dk))
    refine nv_kGv (va_runV (As := [.int (nI (gl (G (40 + dk))))]) (rest := []) ⟨hx, hb, hml, hown, hts⟩ (c_X4_put (x := cAd AD 160) l (fun _ _ => cD_of (b := 160) (n := 2) hI cAt_2 (by decide)) ((gl (G (40 + dk)))) (by first | omega | (split <;> omega)) (by omega)) (cwV 1 hts gX6_line_X4_put rfl rfl rfl (by decide +kernel) ⟨Nat.le_of_ble_eq_true rfl, Nat.le_of_ble_eq_true rfl⟩) (nt_pVn hT hS (cRg_A hAA (by decide)) hPt (cTx.recv hK.1 hPt)) rfl rfl hl.1 rfl (lv_room (Nat.le_of_ble_eq_true rfl)) dX6_line_42 ⟨Nat.le_of_ble_eq_true rfl, Nat.le_of_ble_eq_true rfl⟩) hS (cRg_A hAA (by decide)) (fun H locs hP1 hK1 hS => ?_)
    have hPt : va_P D vwCl (tw cC (cAd AD 160) (va_up F9 (0) ((gl (G (40 + dk))))) (1)) H := hP1
    have hPo := cOn_Ob.keep hI hK1 hPo (Or.inl (by decide)) (by decide) (by decide)
    have hPh := (cOn_P (cAt_hw 1)).keep hI hK1 hPh (Or.inl (by decide)) (by decide) (by decide)
    have hPs := cOn_Sv.keep hI hK1 hPs (Or.inl (by decide)) (by decide) (by decide)
    have hPp := cOn_Pa.keep hI hK1 hPp (Or.inl (by decide)) (by decide) (by decide)
    have hPw := cOn_Wk.keep hI hK1 hPw (Or.inl (by decide)) (by decide) (by decide)
    have hPi := cOn_In.keep hI hK1 hPi (Or.inr (by decide)) (by decide) (by decide)
    refine lv_iinc (v := nI (1)) (lv' := [(3, .int (nI 1)), (2, .ref ((cAd AD 1) (6 + dk))), (0, .ref (AD 0)), (1, .int (nI dk))]) hx hb dX6_line_45 hl (k := 0) rfl (by show nI _ + Int32.ofInt 1 = _; exact nI_add _ 1) (by decide) rfl (fun ls hl => ?_)
    refine lv_goto (tgt := 24) hx hb dX6_line_48 (by decide) ?_
    refine lv_iload_n hx hb dX6_line_24 rfl (lv_at hl 0 rfl) ?_
    refine lv_iconst (v := nI 3) hx hb dX6_line_25 (by decide) ?_
    refine nv_icmp_ge (tgt := 51) hx hb dX6_line_26 (by decide) (by omega) (by omega) (fun c3 => ?_) (fun c3 => ?_)
    · exact absurd c3 (by decide)
    · refine lv_aload_n hx hb dX6_line_29 rfl (lv_at hl 2 rfl) ?_
      refine va_get (D := D) (ci := 8) (v := .ref ((cAd AD 160) 0)) (C := RX6) (T := TX6) (N := 11) hx hb hts in_X6 hown hK.1 hPo 0 rfl rfl 4 (by decide) fl_36 (fun _ h9 => h9) rfl dX6_line_30 ?_
      refine lv_aload_n hx hb dX6_line_33 rfl (lv_at hl 2 rfl) ?_
      refine va_get (D := D) (ci := 8) (v := .ref ((cAd AD 1) 0)) (C := RX6) (T := TX6) (N := 11) hx hb hts in_X6 hown hK.1 hPo 0 rfl rfl 0 (by decide) fl_10 (fun _ h9 => h9) rfl dX6_line_34 ?_
      refine lv_aload_n hx hb dX6_line_37 rfl (lv_at hl 1 rfl) ?_
      refine lv_iload_n hx hb dX6_line_38 rfl (lv_at hl 0 rfl) ?_
      refine nv_kS (va_runV (As := [.ref ((cAd AD 1) (6 + dk)), .int (nI 1)]) (rest := [.ref ((cAd AD 160) 0)]) ⟨hx, hb, hml, hown, hts⟩ (c_X1_formSign l hR hG dk 1 (by omega) (by omega)) (cwV 2 hts gX6_line_X1_formSign rfl rfl rfl (by decide +kernel) ⟨Nat.le_of_ble_eq_true rfl, Nat.le_of_ble_eq_true rfl⟩) (nt_pV hT hS hPh (va_recv hK.1 hPh (ci := 3) (q0 := 0) rfl rfl)) rfl rfl hl.1 rfl (lv_room (Nat.le_of_ble_eq_true rfl)) dX6_line_39 ⟨Nat.le_of_ble_eq_true rfl, Nat.le_of_ble_eq_true rfl⟩) ?_
      refine nv_to (if G (48 + dk) = 1 then 100 else 115) (congrArg nI (fSg_1 (by omega))) ?_
      refine nv_kGv (va_runV (As := [.int (nI ((if G (48 + dk) = 1 then 100 else 115)))]) (rest := []) ⟨hx, hb, hml, hown, hts⟩ (c_X4_put (x := cAd AD 160) l (fun _ _ => cD_of (b := 160) (n := 2) hI cAt_2 (by decide)) (((if G (48 + dk) = 1 then 100 else 115))) (by first | omega | (split <;> omega)) (by omega)) (cwV 1 hts gX6_line_X4_put rfl rfl rfl (by decide +kernel) ⟨Nat.le_of_ble_eq_true rfl, Nat.le_of_ble_eq_true rfl⟩) (nt_pVn hT hS (cRg_A hAA (by decide)) hPt (cTx.recv hK.1 hPt)) rfl rfl hl.1 rfl (lv_room (Nat.le_of_ble_eq_true rfl)) dX6_line_42 ⟨Nat.le_of_ble_eq_true rfl, Nat.le_of_ble_eq_true rfl⟩) hS (cRg_A hAA (by decide)) (fun H locs hP1 hK1 hS => ?_)
      have hPt : va_P D vwCl (tw cC (cAd AD 160) (va_up (va_up F9 (0) ((gl (G (40 + dk))))) (1) (((if G (48 + dk) = 1 then 100 else 115)))) (2)) H := hP1
      have hPo := cOn_Ob.keep hI hK1 hPo (Or.inl (by decide)) (by decide) (by decide)
      have hPh := (cOn_P (cAt_hw 1)).keep hI hK1 hPh (Or.inl (by decide)) (by decide) (by decide)
      have hPs := cOn_Sv.keep hI hK1 hPs (Or.inl (by decide)) (by decide) (by decide)
      have hPp := cOn_Pa.keep hI hK1 hPp (Or.inl (by decide)) (by decide) (by decide)
      have hPw := cOn_Wk.keep hI hK1 hPw (Or.inl (by decide)) (by decide) (by decide)
      have hPi := cOn_In.keep hI hK1 hPi (Or.inr (by decide)) (by decide) (by decide)
      refine lv_iinc (v := nI (2)) (lv' := [(3, .int (nI 2)), (2, .ref ((cAd AD 1) (6 + dk))), (0, .ref (AD 0)), (1, .int (nI dk))]) hx hb dX6_line_45 hl (k := 0) rfl (by show nI _ + Int32.ofInt 1 = _; exact nI_add _ 1) (by decide) rfl (fun ls hl => ?_)
      refine lv_goto (tgt := 24) hx hb dX6_line_48 (by decide) ?_
      refine lv_iload_n hx hb dX6_line_24 rfl (lv_at hl 0 rfl) ?_
      refine lv_iconst (v := nI 3) hx hb dX6_line_25 (by decide) ?_
      refine nv_icmp_ge (tgt := 51) hx hb dX6_line_26 (by decide) (by omega) (by omega) (fun c4 => ?_) (fun c4 => ?_)
      · exact absurd c4 (by decide)
      · refine lv_aload_n hx hb dX6_line_29 rfl (lv_at hl 2 rfl) ?_
        refine va_get (D := D) (ci := 8) (v := .ref ((cAd AD 160) 0)) (C := RX6) (T := TX6) (N := 11) hx hb hts in_X6 hown hK.1 hPo 0 rfl rfl 4 (by decide) fl_36 (fun _ h9 => h9) rfl dX6_line_30 ?_
        refine lv_aload_n hx hb dX6_line_33 rfl (lv_at hl 2 rfl) ?_
        refine va_get (D := D) (ci := 8) (v := .ref ((cAd AD 1) 0)) (C := RX6) (T := TX6) (N := 11) hx hb hts in_X6 hown hK.1 hPo 0 rfl rfl 0 (by decide) fl_10 (fun _ h9 => h9) rfl dX6_line_34 ?_
        refine lv_aload_n hx hb dX6_line_37 rfl (lv_at hl 1 rfl) ?_
        refine lv_iload_n hx hb dX6_line_38 rfl (lv_at hl 0 rfl) ?_
        refine nv_kS (va_runV (As := [.ref ((cAd AD 1) (6 + dk)), .int (nI 2)]) (rest := [.ref ((cAd AD 160) 0)]) ⟨hx, hb, hml, hown, hts⟩ (c_X1_formSign l hR hG dk 2 (by omega) (by omega)) (cwV 2 hts gX6_line_X1_formSign rfl rfl rfl (by decide +kernel) ⟨Nat.le_of_ble_eq_true rfl, Nat.le_of_ble_eq_true rfl⟩) (nt_pV hT hS hPh (va_recv hK.1 hPh (ci := 3) (q0 := 0) rfl rfl)) rfl rfl hl.1 rfl (lv_room (Nat.le_of_ble_eq_true rfl)) dX6_line_39 ⟨Nat.le_of_ble_eq_true rfl, Nat.le_of_ble_eq_true rfl⟩) ?_
        refine nv_to (97 + gEnd G dk) rfl ?_
        refine nv_kGv (va_runV (As := [.int (nI (97 + gEnd G dk))]) (rest := []) ⟨hx, hb, hml, hown, hts⟩ (c_X4_put (x := cAd AD 160) l (fun _ _ => cD_of (b := 160) (n := 2) hI cAt_2 (by decide)) ((97 + gEnd G dk)) (by first | omega | (split <;> omega)) (by omega)) (cwV 1 hts gX6_line_X4_put rfl rfl rfl (by decide +kernel) ⟨Nat.le_of_ble_eq_true rfl, Nat.le_of_ble_eq_true rfl⟩) (nt_pVn hT hS (cRg_A hAA (by decide)) hPt (cTx.recv hK.1 hPt)) rfl rfl hl.1 rfl (lv_room (Nat.le_of_ble_eq_true rfl)) dX6_line_42 ⟨Nat.le_of_ble_eq_true rfl, Nat.le_of_ble_eq_true rfl⟩) hS (cRg_A hAA (by decide)) (fun H locs hP1 hK1 hS => ?_)
        have hPt : va_P D vwCl (tw cC (cAd AD 160) (va_up (va_up (va_up F9 (0) ((gl (G (40 + dk))))) (1) (((if G (48 + dk) = 1 then 100 else 115)))) (2) ((97 + gEnd G dk))) (3)) H := hP1
        have hPo := cOn_Ob.keep hI hK1 hPo (Or.inl (by decide)) (by decide) (by decide)
        have hPh := (cOn_P (cAt_hw 1)).keep hI hK1 hPh (Or.inl (by decide)) (by decide) (by decide)
        have hPs := cOn_Sv.keep hI hK1 hPs (Or.inl (by decide)) (by decide) (by decide)
        have hPp := cOn_Pa.keep hI hK1 hPp (Or.inl (by decide)) (by decide) (by decide)
        have hPw := cOn_Wk.keep hI hK1 hPw (Or.inl (by decide)) (by decide) (by decide)
        have hPi := cOn_In.keep hI hK1 hPi (Or.inr (by decide)) (by decide) (by decide)
        refine lv_iinc (v := nI (3)) (lv' := [(3, .int (nI 3)), (2, .ref ((cAd AD 1) (6 + dk))), (0, .ref (AD 0)), (1, .int (nI dk))]) hx hb dX6_line_45 hl (k := 0) rfl (by show nI _ + Int32.ofInt 1 = _; exact nI_add _ 1) (by decide) rfl (fun ls hl => ?_)
        refine lv_goto (tgt := 24) hx hb dX6_line_48 (by decide) ?_
        refine lv_iload_n hx hb dX6_line_24 rfl (lv_at hl 0 rfl) ?_
        refine lv_iconst (v := nI 3) hx hb dX6_line_25 (by decide) ?_
        refine nv_icmp_ge (tgt := 51) hx hb dX6_line_26 (by decide) (by omega) (by omega) (fun c5 => ?_) (fun c5 => ?_)
        · refine lv_aload_n hx hb dX6_line_51 rfl (lv_at hl 2 rfl) ?_
          refine va_get (D := D) (ci := 8) (v := .ref ((cAd AD 160) 0)) (C := RX6) (T := TX6) (N := 11) hx hb hts in_X6 hown hK.1 hPo 0 rfl rfl 4 (by decide) fl_36 (fun _ h9 => h9) rfl dX6_line_52 ?_
          refine lv_aload_n hx hb dX6_line_55 rfl (lv_at hl 1 rfl) ?_
          refine va_get (D := D) (ci := 2) (v := .int (nI (hs_d u (dk) 3))) (C := RX0) (T := TX0) (N := 10) hx hb hts in_X0 hown hK.1 hPh (6 + (dk)) (hw_at (dk) (by omega)) rfl 3 (by decide) fl_159 (fun _ h9 => h9) rfl dX6_line_56 ?_
          refine nv_to (G (88 + dk)) (congrArg nI ((hR.d3 (d := dk) (by rw [zq0]; omega)))) ?_
          refine nv_kGv (va_runV (As := [.int (nI (G (88 + dk)))]) (rest := []) ⟨hx, hb, hml, hown, hts⟩ (c_X4_putDigit (x := cAd AD 160) l (fun _ _ => cD_of (b := 160) (n := 2) hI cAt_2 (by decide)) ((G (88 + dk))) (by first | omega | (split <;> omega)) (by omega)) (cwV 1 hts gX6_line_X4_putDigit rfl rfl rfl (by decide +kernel) ⟨Nat.le_of_ble_eq_true rfl, Nat.le_of_ble_eq_true rfl⟩) (nt_pVn hT hS (cRg_A hAA (by decide)) hPt (cTx.recv hK.1 hPt)) rfl rfl hl.1 rfl (lv_room (Nat.le_of_ble_eq_true rfl)) dX6_line_59 ⟨Nat.le_of_ble_eq_true rfl, Nat.le_of_ble_eq_true rfl⟩) hS (cRg_A hAA (by decide)) (fun H locs hP1 hK1 hS => ?_)
          have hPt : va_P D vwCl (tw cC (cAd AD 160) (va_up (va_up (va_up (va_up F9 (0) ((gl (G (40 + dk))))) (1) (((if G (48 + dk) = 1 then 100 else 115)))) (2) ((97 + gEnd G dk))) (3) (48 + ((G (88 + dk))))) (4)) H := hP1
          have hPo := cOn_Ob.keep hI hK1 hPo (Or.inl (by decide)) (by decide) (by decide)
          have hPh := (cOn_P (cAt_hw 1)).keep hI hK1 hPh (Or.inl (by decide)) (by decide) (by decide)
          have hPs := cOn_Sv.keep hI hK1 hPs (Or.inl (by decide)) (by decide) (by decide)
          have hPp := cOn_Pa.keep hI hK1 hPp (Or.inl (by decide)) (by decide) (by decide)
          have hPw := cOn_Wk.keep hI hK1 hPw (Or.inl (by decide)) (by decide) (by decide)
          have hPi := cOn_In.keep hI hK1 hPi (Or.inr (by decide)) (by decide) (by decide)
          refine lv_aload_n hx hb dX6_line_62 rfl (lv_at hl 2 rfl) ?_
          refine va_get (D := D) (ci := 8) (v := .ref ((cAd AD 160) 0)) (C := RX6) (T := TX6) (N := 11) hx hb hts in_X6 hown hK.1 hPo 0 rfl rfl 4 (by decide) fl_36 (fun _ h9 => h9) rfl dX6_line_63 ?_
          refine lv_bipush (v := nI 45) hx hb dX6_line_66 (by decide) ?_
          refine nv_kGv (va_runV (As := [.int (nI 45)]) (rest := []) ⟨hx, hb, hml, hown, hts⟩ (c_X4_put (x := cAd AD 160) l (fun _ _ => cD_of (b := 160) (n := 2) hI cAt_2 (by decide)) 45 (by first | omega | (split <;> omega)) (by omega)) (cwV 1 hts gX6_line_X4_put rfl rfl rfl (by decide +kernel) ⟨Nat.le_of_ble_eq_true rfl, Nat.le_of_ble_eq_true rfl⟩) (nt_pVn hT hS (cRg_A hAA (by decide)) hPt (cTx.recv hK.1 hPt)) rfl rfl hl.1 rfl (lv_room (Nat.le_of_ble_eq_true rfl)) dX6_line_68 ⟨Nat.le_of_ble_eq_true rfl, Nat.le_of_ble_eq_true rfl⟩) hS (cRg_A hAA (by decide)) (fun H locs hP1 hK1 hS => ?_)
          have hPt : va_P D vwCl (tw cC (cAd AD 160) (va_up (va_up (va_up (va_up (va_up F9 (0) ((gl (G (40 + dk))))) (1) (((if G (48 + dk) = 1 then 100 else 115)))) (2) ((97 + gEnd G dk))) (3) (48 + ((G (88 + dk))))) (4) (45)) (5)) H := hP1
          have hPo := cOn_Ob.keep hI hK1 hPo (Or.inl (by decide)) (by decide) (by decide)
          have hPh := (cOn_P (cAt_hw 1)).keep hI hK1 hPh (Or.inl (by decide)) (by decide) (by decide)
          have hPs := cOn_Sv.keep hI hK1 hPs (Or.inl (by decide)) (by decide) (by decide)
          have hPp := cOn_Pa.keep hI hK1 hPp (Or.inl (by decide)) (by decide) (by decide)
          have hPw := cOn_Wk.keep hI hK1 hPw (Or.inl (by decide)) (by decide) (by decide)
          have hPi := cOn_In.keep hI hK1 hPi (Or.inr (by decide)) (by decide) (by decide)
          refine lv_aload_n hx hb dX6_line_71 rfl (lv_at hl 2 rfl) ?_
          refine va_get (D := D) (ci := 8) (v := .ref ((cAd AD 160) 0)) (C := RX6) (T := TX6) (N := 11) hx hb hts in_X6 hown hK.1 hPo 0 rfl rfl 4 (by decide) fl_36 (fun _ h9 => h9) rfl dX6_line_72 ?_
          refine lv_aload_n hx hb dX6_line_75 rfl (lv_at hl 1 rfl) ?_
          refine va_get (D := D) (ci := 2) (v := .int (nI (hs_d u (dk) 4))) (C := RX0) (T := TX0) (N := 10) hx hb hts in_X0 hown hK.1 hPh (6 + (dk)) (hw_at (dk) (by omega)) rfl 4 (by decide) fl_162 (fun _ h9 => h9) rfl dX6_line_76 ?_
          refine nv_to (G (96 + dk)) (congrArg nI ((hR.d4 (d := dk) (by rw [zq0]; omega)))) ?_
          refine nv_kGv (va_runV (As := [.int (nI (G (96 + dk)))]) (rest := []) ⟨hx, hb, hml, hown, hts⟩ (c_X4_putDigit (x := cAd AD 160) l (fun _ _ => cD_of (b := 160) (n := 2) hI cAt_2 (by decide)) ((G (96 + dk))) (by first | omega | (split <;> omega)) (by omega)) (cwV 1 hts gX6_line_X4_putDigit rfl rfl rfl (by decide +kernel) ⟨Nat.le_of_ble_eq_true rfl, Nat.le_of_ble_eq_true rfl⟩) (nt_pVn hT hS (cRg_A hAA (by decide)) hPt (cTx.recv hK.1 hPt)) rfl rfl hl.1 rfl (lv_room (Nat.le_of_ble_eq_true rfl)) dX6_line_79 ⟨Nat.le_of_ble_eq_true rfl, Nat.le_of_ble_eq_true rfl⟩) hS (cRg_A hAA (by decide)) (fun H locs hP1 hK1 hS => ?_)
          have hPt : va_P D vwCl (tw cC (cAd AD 160) (va_up (va_up (va_up (va_up (va_up (va_up F9 (0) ((gl (G (40 + dk))))) (1) (((if G (48 + dk) = 1 then 100 else 115)))) (2) ((97 + gEnd G dk))) (3) (48 + ((G (88 + dk))))) (4) (45)) (5) (48 + ((G (96 + dk))))) (6)) H := hP1
          have hPo := cOn_Ob.keep hI hK1 hPo (Or.inl (by decide)) (by decide) (by decide)
          have hPh := (cOn_P (cAt_hw 1)).keep hI hK1 hPh (Or.inl (by decide)) (by decide) (by decide)
          have hPs := cOn_Sv.keep hI hK1 hPs (Or.inl (by decide)) (by decide) (by decide)
          have hPp := cOn_Pa.keep hI hK1 hPp (Or.inl (by decide)) (by decide) (by decide)
          have hPw := cOn_Wk.keep hI hK1 hPw (Or.inl (by decide)) (by decide) (by decide)
          have hPi := cOn_In.keep hI hK1 hPi (Or.inr (by decide)) (by decide) (by decide)
          refine lv_aload_n hx hb dX6_line_82 rfl (lv_at hl 1 rfl) ?_
          refine va_get (D := D) (ci := 2) (v := .int (nI (hs_d u (dk) 5) - nI 1)) (C := RX0) (T := TX0) (N := 10) hx hb hts in_X0 hown hK.1 hPh (6 + (dk)) (hw_at (dk) (by omega)) rfl 5 (by decide) fl_143 (fun _ h9 => h9) rfl dX6_line_83 ?_
          refine iv_to (nI (G (56 + dk)) - nI 1) (congrArg (fun z => nI z - nI 1) (hR.d5 (d := dk) (by omega))) ?_
          refine lv_iconst (v := (-1)) hx hb dX6_line_86 (by decide) ?_
          refine lv_icmp_eq (tgt := 110) hx hb dX6_line_87 (by decide) (fun c6 => ?_) (fun c6 => ?_)
          · have hz9 : G (56 + dk) = 0 := thr_z (by have := hG.lt (k := 56 + dk) (by omega); omega) c6
            refine lv_aload_n hx hb dX6_line_110 rfl (lv_at hl 1 rfl) ?_
            refine va_get (D := D) (ci := 2) (v := .int (nI (hs_d u (dk) 9))) (C := RX0) (T := TX0) (N := 10) hx hb hts in_X0 hown hK.1 hPh (6 + (dk)) (hw_at (dk) (by omega)) rfl 9 (by decide) fl_156 (fun _ h9 => h9) rfl dX6_line_111 ?_
            refine nv_to (G (80 + dk)) (congrArg nI ((hR.d9 (d := dk) (by rw [zq0]; omega)))) ?_
            refine nv_if_eq (tgt := 129) hx hb dX6_line_114 (by decide) (by omega) (fun c7 => ?_) (fun c7 => ?_)
            · refine lv_aload_n hx hb dX6_line_129 rfl (lv_at hl 1 rfl) ?_
              refine va_get (D := D) (ci := 2) (v := .int (nI (hs_d u (dk) 6))) (C := RX0) (T := TX0) (N := 10) hx hb hts in_X0 hown hK.1 hPh (6 + (dk)) (hw_at (dk) (by omega)) rfl 6 (by decide) fl_150 (fun _ h9 => h9) rfl dX6_line_130 ?_
              refine nv_to (G (64 + dk)) (congrArg nI ((hR.d6 (d := dk) (by rw [zq0]; omega)))) ?_
              refine nv_if_le (tgt := 156) hx hb dX6_line_133 (by decide) (by omega) (fun c8 => ?_) (fun c8 => ?_)
              · refine lv_aload_n hx hb dX6_line_156 rfl (lv_at hl 2 rfl) ?_
                refine va_get (D := D) (ci := 8) (v := .ref ((cAd AD 160) 0)) (C := RX6) (T := TX6) (N := 11) hx hb hts in_X6 hown hK.1 hPo 0 rfl rfl 4 (by decide) fl_36 (fun _ h9 => h9) rfl dX6_line_157 ?_
                have hP := hPt
                refine va_get (D := D) (ci := 6) (v := .int (nI 6)) (C := RX4) (T := TX4) (N := 2) hx hb hts in_X4 hown hK.1 hP 0 rfl rfl 1 (by decide) fl_309 (fun _ h9 => h9) rfl dX6_line_160 ?_
                exact nv_retGX hq hx hb hr hlocks (Nat.le_of_ble_eq_true rfl) (Nat.le_of_ble_eq_true rfl) (nar_i _) (if_pos c1) (by rw [if_pos c1, et_dk]; unfold lnD; rw [if_pos hz9, if_neg (show ¬ G (80 + dk) = 1 by omega), if_pos (show G (64 + dk) = 0 by omega)] <;> rfl) hS (by rw [if_pos c1, if_pos c1, et_dk]; exact ⟨hPo, ⟨u, hR, hk, hPh⟩, hPi, hPs, hPp, hPw, tx_of (F0 := F9) (Nat.le_trans (lnD_len G dk) (by decide)) (by unfold lnD; rw [if_pos hz9, if_neg (show ¬ G (80 + dk) = 1 by omega), if_pos (show G (64 + dk) = 0 by omega)]; exact hPt)⟩) dX6_line_163
              · refine lv_aload_n hx hb dX6_line_136 rfl (lv_at hl 2 rfl) ?_
                refine va_get (D := D) (ci := 8) (v := .ref ((cAd AD 160) 0)) (C := RX6) (T := TX6) (N := 11) hx hb hts in_X6 hown hK.1 hPo 0 rfl rfl 4 (by decide) fl_36 (fun _ h9 => h9) rfl dX6_line_137 ?_
                refine lv_bipush (v := nI 33) hx hb dX6_line_140 (by decide) ?_
                refine nv_kGv (va_runV (As := [.int (nI 33)]) (rest := []) ⟨hx, hb, hml, hown, hts⟩ (c_X4_put (x := cAd AD 160) l (fun _ _ => cD_of (b := 160) (n := 2) hI cAt_2 (by decide)) 33 (by first | omega | (split <;> omega)) (by omega)) (cwV 1 hts gX6_line_X4_put rfl rfl rfl (by decide +kernel) ⟨Nat.le_of_ble_eq_true rfl, Nat.le_of_ble_eq_true rfl⟩) (nt_pVn hT hS (cRg_A hAA (by decide)) hPt (cTx.recv hK.1 hPt)) rfl rfl hl.1 rfl (lv_room (Nat.le_of_ble_eq_true rfl)) dX6_line_142 ⟨Nat.le_of_ble_eq_true rfl, Nat.le_of_ble_eq_true rfl⟩) hS (cRg_A hAA (by decide)) (fun H locs hP1 hK1 hS => ?_)
                have hPt : va_P D vwCl (tw cC (cAd AD 160) (va_up (va_up (va_up (va_up (va_up (va_up (va_up F9 (0) ((gl (G (40 + dk))))) (1) (((if G (48 + dk) = 1 then 100 else 115)))) (2) ((97 + gEnd G dk))) (3) (48 + ((G (88 + dk))))) (4) (45)) (5) (48 + ((G (96 + dk))))) (6) (33)) (7)) H := hP1
                have hPo := cOn_Ob.keep hI hK1 hPo (Or.inl (by decide)) (by decide) (by decide)
                have hPh := (cOn_P (cAt_hw 1)).keep hI hK1 hPh (Or.inl (by decide)) (by decide) (by decide)
                have hPs := cOn_Sv.keep hI hK1 hPs (Or.inl (by decide)) (by decide) (by decide)
                have hPp := cOn_Pa.keep hI hK1 hPp (Or.inl (by decide)) (by decide) (by decide)
                have hPw := cOn_Wk.keep hI hK1 hPw (Or.inl (by decide)) (by decide) (by decide)
                have hPi := cOn_In.keep hI hK1 hPi (Or.inr (by decide)) (by decide) (by decide)
                refine lv_aload_n hx hb dX6_line_145 rfl (lv_at hl 2 rfl) ?_
                refine va_get (D := D) (ci := 8) (v := .ref ((cAd AD 160) 0)) (C := RX6) (T := TX6) (N := 11) hx hb hts in_X6 hown hK.1 hPo 0 rfl rfl 4 (by decide) fl_36 (fun _ h9 => h9) rfl dX6_line_146 ?_
                refine lv_aload_n hx hb dX6_line_149 rfl (lv_at hl 1 rfl) ?_
                refine va_get (D := D) (ci := 2) (v := .int (nI (hs_d u (dk) 6))) (C := RX0) (T := TX0) (N := 10) hx hb hts in_X0 hown hK.1 hPh (6 + (dk)) (hw_at (dk) (by omega)) rfl 6 (by decide) fl_150 (fun _ h9 => h9) rfl dX6_line_150 ?_
                refine nv_to (G (64 + dk)) (congrArg nI ((hR.d6 (d := dk) (by rw [zq0]; omega)))) ?_
                refine nv_kGv (va_runV (As := [.int (nI (G (64 + dk)))]) (rest := []) ⟨hx, hb, hml, hown, hts⟩ (c_X4_putDigit (x := cAd AD 160) l (fun _ _ => cD_of (b := 160) (n := 2) hI cAt_2 (by decide)) ((G (64 + dk))) (by first | omega | (split <;> omega)) (by omega)) (cwV 1 hts gX6_line_X4_putDigit rfl rfl rfl (by decide +kernel) ⟨Nat.le_of_ble_eq_true rfl, Nat.le_of_ble_eq_true rfl⟩) (nt_pVn hT hS (cRg_A hAA (by decide)) hPt (cTx.recv hK.1 hPt)) rfl rfl hl.1 rfl (lv_room (Nat.le_of_ble_eq_true rfl)) dX6_line_153 ⟨Nat.le_of_ble_eq_true rfl, Nat.le_of_ble_eq_true rfl⟩) hS (cRg_A hAA (by decide)) (fun H locs hP1 hK1 hS => ?_)
                have hPt : va_P D vwCl (tw cC (cAd AD 160) (va_up (va_up (va_up (va_up (va_up (va_up (va_up (va_up F9 (0) ((gl (G (40 + dk))))) (1) (((if G (48 + dk) = 1 then 100 else 115)))) (2) ((97 + gEnd G dk))) (3) (48 + ((G (88 + dk))))) (4) (45)) (5) (48 + ((G (96 + dk))))) (6) (33)) (7) (48 + ((G (64 + dk))))) (8)) H := hP1
                have hPo := cOn_Ob.keep hI hK1 hPo (Or.inl (by decide)) (by decide) (by decide)
                have hPh := (cOn_P (cAt_hw 1)).keep hI hK1 hPh (Or.inl (by decide)) (by decide) (by decide)
                have hPs := cOn_Sv.keep hI hK1 hPs (Or.inl (by decide)) (by decide) (by decide)
                have hPp := cOn_Pa.keep hI hK1 hPp (Or.inl (by decide)) (by decide) (by decide)
                have hPw := cOn_Wk.keep hI hK1 hPw (Or.inl (by decide)) (by decide) (by decide)
                have hPi := cOn_In.keep hI hK1 hPi (Or.inr (by decide)) (by decide) (by decide)
                refine lv_aload_n hx hb dX6_line_156 rfl (lv_at hl 2 rfl) ?_
                refine va_get (D := D) (ci := 8) (v := .ref ((cAd AD 160) 0)) (C := RX6) (T := TX6) (N := 11) hx hb hts in_X6 hown hK.1 hPo 0 rfl rfl 4 (by decide) fl_36 (fun _ h9 => h9) rfl dX6_line_157 ?_
                have hP := hPt
                refine va_get (D := D) (ci := 6) (v := .int (nI 8)) (C := RX4) (T := TX4) (N := 2) hx hb hts in_X4 hown hK.1 hP 0 rfl rfl 1 (by decide) fl_309 (fun _ h9 => h9) rfl dX6_line_160 ?_
                exact nv_retGX hq hx hb hr hlocks (Nat.le_of_ble_eq_true rfl) (Nat.le_of_ble_eq_true rfl) (nar_i _) (if_pos c1) (by rw [if_pos c1, et_dk]; unfold lnD; rw [if_pos hz9, if_neg (show ¬ G (80 + dk) = 1 by omega), if_neg (show ¬ G (64 + dk) = 0 by omega)] <;> rfl) hS (by rw [if_pos c1, if_pos c1, et_dk]; exact ⟨hPo, ⟨u, hR, hk, hPh⟩, hPi, hPs, hPp, hPw, tx_of (F0 := F9) (Nat.le_trans (lnD_len G dk) (by decide)) (by unfold lnD; rw [if_pos hz9, if_neg (show ¬ G (80 + dk) = 1 by omega), if_neg (show ¬ G (64 + dk) = 0 by omega)]; exact hPt)⟩) dX6_line_163
            · refine lv_aload_n hx hb dX6_line_117 rfl (lv_at hl 2 rfl) ?_
              refine va_get (D := D) (ci := 8) (v := .ref ((cAd AD 160) 0)) (C := RX6) (T := TX6) (N := 11) hx hb hts in_X6 hown hK.1 hPo 0 rfl rfl 4 (by decide) fl_36 (fun _ h9 => h9) rfl dX6_line_118 ?_
              refine lv_bipush (v := nI 43) hx hb dX6_line_121 (by decide) ?_
              refine nv_kGv (va_runV (As := [.int (nI 43)]) (rest := []) ⟨hx, hb, hml, hown, hts⟩ (c_X4_put (x := cAd AD 160) l (fun _ _ => cD_of (b := 160) (n := 2) hI cAt_2 (by decide)) 43 (by first | omega | (split <;> omega)) (by omega)) (cwV 1 hts gX6_line_X4_put rfl rfl rfl (by decide +kernel) ⟨Nat.le_of_ble_eq_true rfl, Nat.le_of_ble_eq_true rfl⟩) (nt_pVn hT hS (cRg_A hAA (by decide)) hPt (cTx.recv hK.1 hPt)) rfl rfl hl.1 rfl (lv_room (Nat.le_of_ble_eq_true rfl)) dX6_line_123 ⟨Nat.le_of_ble_eq_true rfl, Nat.le_of_ble_eq_true rfl⟩) hS (cRg_A hAA (by decide)) (fun H locs hP1 hK1 hS => ?_)
              have hPt : va_P D vwCl (tw cC (cAd AD 160) (va_up (va_up (va_up (va_up (va_up (va_up (va_up F9 (0) ((gl (G (40 + dk))))) (1) (((if G (48 + dk) = 1 then 100 else 115)))) (2) ((97 + gEnd G dk))) (3) (48 + ((G (88 + dk))))) (4) (45)) (5) (48 + ((G (96 + dk))))) (6) (43)) (7)) H := hP1
              have hPo := cOn_Ob.keep hI hK1 hPo (Or.inl (by decide)) (by decide) (by decide)
              have hPh := (cOn_P (cAt_hw 1)).keep hI hK1 hPh (Or.inl (by decide)) (by decide) (by decide)
              have hPs := cOn_Sv.keep hI hK1 hPs (Or.inl (by decide)) (by decide) (by decide)
              have hPp := cOn_Pa.keep hI hK1 hPp (Or.inl (by decide)) (by decide) (by decide)
              have hPw := cOn_Wk.keep hI hK1 hPw (Or.inl (by decide)) (by decide) (by decide)
              have hPi := cOn_In.keep hI hK1 hPi (Or.inr (by decide)) (by decide) (by decide)
              refine lv_goto (tgt := 156) hx hb dX6_line_126 (by decide) ?_
              refine lv_aload_n hx hb dX6_line_156 rfl (lv_at hl 2 rfl) ?_
              refine va_get (D := D) (ci := 8) (v := .ref ((cAd AD 160) 0)) (C := RX6) (T := TX6) (N := 11) hx hb hts in_X6 hown hK.1 hPo 0 rfl rfl 4 (by decide) fl_36 (fun _ h9 => h9) rfl dX6_line_157 ?_
              have hP := hPt
              refine va_get (D := D) (ci := 6) (v := .int (nI 7)) (C := RX4) (T := TX4) (N := 2) hx hb hts in_X4 hown hK.1 hP 0 rfl rfl 1 (by decide) fl_309 (fun _ h9 => h9) rfl dX6_line_160 ?_
              exact nv_retGX hq hx hb hr hlocks (Nat.le_of_ble_eq_true rfl) (Nat.le_of_ble_eq_true rfl) (nar_i _) (if_pos c1) (by rw [if_pos c1, et_dk]; unfold lnD; rw [if_pos hz9, if_pos (show G (80 + dk) = 1 by omega)] <;> rfl) hS (by rw [if_pos c1, if_pos c1, et_dk]; exact ⟨hPo, ⟨u, hR, hk, hPh⟩, hPi, hPs, hPp, hPw, tx_of (F0 := F9) (Nat.le_trans (lnD_len G dk) (by decide)) (by unfold lnD; rw [if_pos hz9, if_pos (show G (80 + dk) = 1 by omega)]; exact hPt)⟩) dX6_line_163
          · have hz9 : ¬ G (56 + dk) = 0 := fun q => c6 (by rw [q]; decide)
            refine lv_aload_n hx hb dX6_line_90 rfl (lv_at hl 2 rfl) ?_
            refine va_get (D := D) (ci := 8) (v := .ref ((cAd AD 160) 0)) (C := RX6) (T := TX6) (N := 11) hx hb hts in_X6 hown hK.1 hPo 0 rfl rfl 4 (by decide) fl_36 (fun _ h9 => h9) rfl dX6_line_91 ?_
            refine lv_bipush (v := nI 64) hx hb dX6_line_94 (by decide) ?_
            refine nv_kGv (va_runV (As := [.int (nI 64)]) (rest := []) ⟨hx, hb, hml, hown, hts⟩ (c_X4_put (x := cAd AD 160) l (fun _ _ => cD_of (b := 160) (n := 2) hI cAt_2 (by decide)) 64 (by first | omega | (split <;> omega)) (by omega)) (cwV 1 hts gX6_line_X4_put rfl rfl rfl (by decide +kernel) ⟨Nat.le_of_ble_eq_true rfl, Nat.le_of_ble_eq_true rfl⟩) (nt_pVn hT hS (cRg_A hAA (by decide)) hPt (cTx.recv hK.1 hPt)) rfl rfl hl.1 rfl (lv_room (Nat.le_of_ble_eq_true rfl)) dX6_line_96 ⟨Nat.le_of_ble_eq_true rfl, Nat.le_of_ble_eq_true rfl⟩) hS (cRg_A hAA (by decide)) (fun H locs hP1 hK1 hS => ?_)
            have hPt : va_P D vwCl (tw cC (cAd AD 160) (va_up (va_up (va_up (va_up (va_up (va_up (va_up F9 (0) ((gl (G (40 + dk))))) (1) (((if G (48 + dk) = 1 then 100 else 115)))) (2) ((97 + gEnd G dk))) (3) (48 + ((G (88 + dk))))) (4) (45)) (5) (48 + ((G (96 + dk))))) (6) (64)) (7)) H := hP1
            have hPo := cOn_Ob.keep hI hK1 hPo (Or.inl (by decide)) (by decide) (by decide)
            have hPh := (cOn_P (cAt_hw 1)).keep hI hK1 hPh (Or.inl (by decide)) (by decide) (by decide)
            have hPs := cOn_Sv.keep hI hK1 hPs (Or.inl (by decide)) (by decide) (by decide)
            have hPp := cOn_Pa.keep hI hK1 hPp (Or.inl (by decide)) (by decide) (by decide)
            have hPw := cOn_Wk.keep hI hK1 hPw (Or.inl (by decide)) (by decide) (by decide)
            have hPi := cOn_In.keep hI hK1 hPi (Or.inr (by decide)) (by decide) (by decide)
            refine lv_aload_n hx hb dX6_line_99 rfl (lv_at hl 2 rfl) ?_
            refine va_get (D := D) (ci := 8) (v := .ref ((cAd AD 160) 0)) (C := RX6) (T := TX6) (N := 11) hx hb hts in_X6 hown hK.1 hPo 0 rfl rfl 4 (by decide) fl_36 (fun _ h9 => h9) rfl dX6_line_100 ?_
            refine lv_aload_n hx hb dX6_line_103 rfl (lv_at hl 1 rfl) ?_
            refine va_get (D := D) (ci := 2) (v := .int (nI (hs_d u (dk) 5) - nI 1)) (C := RX0) (T := TX0) (N := 10) hx hb hts in_X0 hown hK.1 hPh (6 + (dk)) (hw_at (dk) (by omega)) rfl 5 (by decide) fl_143 (fun _ h9 => h9) rfl dX6_line_104 ?_
            refine iv_to (nI (G (56 + dk)) - nI 1) (congrArg (fun z => nI z - nI 1) (hR.d5 (d := dk) (by omega))) ?_
            refine nv_to (G (56 + dk) - 1) (pk_sub (by omega)) ?_
            refine nv_kGv (va_runV (As := [.int (nI (G (56 + dk) - 1))]) (rest := []) ⟨hx, hb, hml, hown, hts⟩ (c_X4_putDigit (x := cAd AD 160) l (fun _ _ => cD_of (b := 160) (n := 2) hI cAt_2 (by decide)) ((G (56 + dk) - 1)) (by first | omega | (split <;> omega)) (by omega)) (cwV 1 hts gX6_line_X4_putDigit rfl rfl rfl (by decide +kernel) ⟨Nat.le_of_ble_eq_true rfl, Nat.le_of_ble_eq_true rfl⟩) (nt_pVn hT hS (cRg_A hAA (by decide)) hPt (cTx.recv hK.1 hPt)) rfl rfl hl.1 rfl (lv_room (Nat.le_of_ble_eq_true rfl)) dX6_line_107 ⟨Nat.le_of_ble_eq_true rfl, Nat.le_of_ble_eq_true rfl⟩) hS (cRg_A hAA (by decide)) (fun H locs hP1 hK1 hS => ?_)
            have hPt : va_P D vwCl (tw cC (cAd AD 160) (va_up (va_up (va_up (va_up (va_up (va_up (va_up (va_up F9 (0) ((gl (G (40 + dk))))) (1) (((if G (48 + dk) = 1 then 100 else 115)))) (2) ((97 + gEnd G dk))) (3) (48 + ((G (88 + dk))))) (4) (45)) (5) (48 + ((G (96 + dk))))) (6) (64)) (7) (48 + ((G (56 + dk) - 1)))) (8)) H := hP1
            have hPo := cOn_Ob.keep hI hK1 hPo (Or.inl (by decide)) (by decide) (by decide)
            have hPh := (cOn_P (cAt_hw 1)).keep hI hK1 hPh (Or.inl (by decide)) (by decide) (by decide)
            have hPs := cOn_Sv.keep hI hK1 hPs (Or.inl (by decide)) (by decide) (by decide)
            have hPp := cOn_Pa.keep hI hK1 hPp (Or.inl (by decide)) (by decide) (by decide)
            have hPw := cOn_Wk.keep hI hK1 hPw (Or.inl (by decide)) (by decide) (by decide)
            have hPi := cOn_In.keep hI hK1 hPi (Or.inr (by decide)) (by decide) (by decide)
            refine lv_aload_n hx hb dX6_line_110 rfl (lv_at hl 1 rfl) ?_
            refine va_get (D := D) (ci := 2) (v := .int (nI (hs_d u (dk) 9))) (C := RX0) (T := TX0) (N := 10) hx hb hts in_X0 hown hK.1 hPh (6 + (dk)) (hw_at (dk) (by omega)) rfl 9 (by decide) fl_156 (fun _ h9 => h9) rfl dX6_line_111 ?_
            refine nv_to (G (80 + dk)) (congrArg nI ((hR.d9 (d := dk) (by rw [zq0]; omega)))) ?_
            refine nv_if_eq (tgt := 129) hx hb dX6_line_114 (by decide) (by omega) (fun c9 => ?_) (fun c9 => ?_)
            · refine lv_aload_n hx hb dX6_line_129 rfl (lv_at hl 1 rfl) ?_
              refine va_get (D := D) (ci := 2) (v := .int (nI (hs_d u (dk) 6))) (C := RX0) (T := TX0) (N := 10) hx hb hts in_X0 hown hK.1 hPh (6 + (dk)) (hw_at (dk) (by omega)) rfl 6 (by decide) fl_150 (fun _ h9 => h9) rfl dX6_line_130 ?_
              refine nv_to (G (64 + dk)) (congrArg nI ((hR.d6 (d := dk) (by rw [zq0]; omega)))) ?_
              refine nv_if_le (tgt := 156) hx hb dX6_line_133 (by decide) (by omega) (fun c10 => ?_) (fun c10 => ?_)
              · refine lv_aload_n hx hb dX6_line_156 rfl (lv_at hl 2 rfl) ?_
                refine va_get (D := D) (ci := 8) (v := .ref ((cAd AD 160) 0)) (C := RX6) (T := TX6) (N := 11) hx hb hts in_X6 hown hK.1 hPo 0 rfl rfl 4 (by decide) fl_36 (fun _ h9 => h9) rfl dX6_line_157 ?_
                have hP := hPt
                refine va_get (D := D) (ci := 6) (v := .int (nI 8)) (C := RX4) (T := TX4) (N := 2) hx hb hts in_X4 hown hK.1 hP 0 rfl rfl 1 (by decide) fl_309 (fun _ h9 => h9) rfl dX6_line_160 ?_
                exact nv_retGX hq hx hb hr hlocks (Nat.le_of_ble_eq_true rfl) (Nat.le_of_ble_eq_true rfl) (nar_i _) (if_pos c1) (by rw [if_pos c1, et_dk]; unfold lnD; rw [if_neg hz9, if_neg (show ¬ G (80 + dk) = 1 by omega), if_pos (show G (64 + dk) = 0 by omega)] <;> rfl) hS (by rw [if_pos c1, if_pos c1, et_dk]; exact ⟨hPo, ⟨u, hR, hk, hPh⟩, hPi, hPs, hPp, hPw, tx_of (F0 := F9) (Nat.le_trans (lnD_len G dk) (by decide)) (by unfold lnD; rw [if_neg hz9, if_neg (show ¬ G (80 + dk) = 1 by omega), if_pos (show G (64 + dk) = 0 by omega)]; exact hPt)⟩) dX6_line_163
              · refine lv_aload_n hx hb dX6_line_136 rfl (lv_at hl 2 rfl) ?_
                refine va_get (D := D) (ci := 8) (v := .ref ((cAd AD 160) 0)) (C := RX6) (T := TX6) (N := 11) hx hb hts in_X6 hown hK.1 hPo 0 rfl rfl 4 (by decide) fl_36 (fun _ h9 => h9) rfl dX6_line_137 ?_
                refine lv_bipush (v := nI 33) hx hb dX6_line_140 (by decide) ?_
                refine nv_kGv (va_runV (As := [.int (nI 33)]) (rest := []) ⟨hx, hb, hml, hown, hts⟩ (c_X4_put (x := cAd AD 160) l (fun _ _ => cD_of (b := 160) (n := 2) hI cAt_2 (by decide)) 33 (by first | omega | (split <;> omega)) (by omega)) (cwV 1 hts gX6_line_X4_put rfl rfl rfl (by decide +kernel) ⟨Nat.le_of_ble_eq_true rfl, Nat.le_of_ble_eq_true rfl⟩) (nt_pVn hT hS (cRg_A hAA (by decide)) hPt (cTx.recv hK.1 hPt)) rfl rfl hl.1 rfl (lv_room (Nat.le_of_ble_eq_true rfl)) dX6_line_142 ⟨Nat.le_of_ble_eq_true rfl, Nat.le_of_ble_eq_true rfl⟩) hS (cRg_A hAA (by decide)) (fun H locs hP1 hK1 hS => ?_)
                have hPt : va_P D vwCl (tw cC (cAd AD 160) (va_up (va_up (va_up (va_up (va_up (va_up (va_up (va_up (va_up F9 (0) ((gl (G (40 + dk))))) (1) (((if G (48 + dk) = 1 then 100 else 115)))) (2) ((97 + gEnd G dk))) (3) (48 + ((G (88 + dk))))) (4) (45)) (5) (48 + ((G (96 + dk))))) (6) (64)) (7) (48 + ((G (56 + dk) - 1)))) (8) (33)) (9)) H := hP1
                have hPo := cOn_Ob.keep hI hK1 hPo (Or.inl (by decide)) (by decide) (by decide)
                have hPh := (cOn_P (cAt_hw 1)).keep hI hK1 hPh (Or.inl (by decide)) (by decide) (by decide)
                have hPs := cOn_Sv.keep hI hK1 hPs (Or.inl (by decide)) (by decide) (by decide)
                have hPp := cOn_Pa.keep hI hK1 hPp (Or.inl (by decide)) (by decide) (by decide)
                have hPw := cOn_Wk.keep hI hK1 hPw (Or.inl (by decide)) (by decide) (by decide)
                have hPi := cOn_In.keep hI hK1 hPi (Or.inr (by decide)) (by decide) (by decide)
                refine lv_aload_n hx hb dX6_line_145 rfl (lv_at hl 2 rfl) ?_
                refine va_get (D := D) (ci := 8) (v := .ref ((cAd AD 160) 0)) (C := RX6) (T := TX6) (N := 11) hx hb hts in_X6 hown hK.1 hPo 0 rfl rfl 4 (by decide) fl_36 (fun _ h9 => h9) rfl dX6_line_146 ?_
                refine lv_aload_n hx hb dX6_line_149 rfl (lv_at hl 1 rfl) ?_
                refine va_get (D := D) (ci := 2) (v := .int (nI (hs_d u (dk) 6))) (C := RX0) (T := TX0) (N := 10) hx hb hts in_X0 hown hK.1 hPh (6 + (dk)) (hw_at (dk) (by omega)) rfl 6 (by decide) fl_150 (fun _ h9 => h9) rfl dX6_line_150 ?_
                refine nv_to (G (64 + dk)) (congrArg nI ((hR.d6 (d := dk) (by rw [zq0]; omega)))) ?_
                refine nv_kGv (va_runV (As := [.int (nI (G (64 + dk)))]) (rest := []) ⟨hx, hb, hml, hown, hts⟩ (c_X4_putDigit (x := cAd AD 160) l (fun _ _ => cD_of (b := 160) (n := 2) hI cAt_2 (by decide)) ((G (64 + dk))) (by first | omega | (split <;> omega)) (by omega)) (cwV 1 hts gX6_line_X4_putDigit rfl rfl rfl (by decide +kernel) ⟨Nat.le_of_ble_eq_true rfl, Nat.le_of_ble_eq_true rfl⟩) (nt_pVn hT hS (cRg_A hAA (by decide)) hPt (cTx.recv hK.1 hPt)) rfl rfl hl.1 rfl (lv_room (Nat.le_of_ble_eq_true rfl)) dX6_line_153 ⟨Nat.le_of_ble_eq_true rfl, Nat.le_of_ble_eq_true rfl⟩) hS (cRg_A hAA (by decide)) (fun H locs hP1 hK1 hS => ?_)
                have hPt : va_P D vwCl (tw cC (cAd AD 160) (va_up (va_up (va_up (va_up (va_up (va_up (va_up (va_up (va_up (va_up F9 (0) ((gl (G (40 + dk))))) (1) (((if G (48 + dk) = 1 then 100 else 115)))) (2) ((97 + gEnd G dk))) (3) (48 + ((G (88 + dk))))) (4) (45)) (5) (48 + ((G (96 + dk))))) (6) (64)) (7) (48 + ((G (56 + dk) - 1)))) (8) (33)) (9) (48 + ((G (64 + dk))))) (10)) H := hP1
                have hPo := cOn_Ob.keep hI hK1 hPo (Or.inl (by decide)) (by decide) (by decide)
                have hPh := (cOn_P (cAt_hw 1)).keep hI hK1 hPh (Or.inl (by decide)) (by decide) (by decide)
                have hPs := cOn_Sv.keep hI hK1 hPs (Or.inl (by decide)) (by decide) (by decide)
                have hPp := cOn_Pa.keep hI hK1 hPp (Or.inl (by decide)) (by decide) (by decide)
                have hPw := cOn_Wk.keep hI hK1 hPw (Or.inl (by decide)) (by decide) (by decide)
                have hPi := cOn_In.keep hI hK1 hPi (Or.inr (by decide)) (by decide) (by decide)
                refine lv_aload_n hx hb dX6_line_156 rfl (lv_at hl 2 rfl) ?_
                refine va_get (D := D) (ci := 8) (v := .ref ((cAd AD 160) 0)) (C := RX6) (T := TX6) (N := 11) hx hb hts in_X6 hown hK.1 hPo 0 rfl rfl 4 (by decide) fl_36 (fun _ h9 => h9) rfl dX6_line_157 ?_
                have hP := hPt
                refine va_get (D := D) (ci := 6) (v := .int (nI 10)) (C := RX4) (T := TX4) (N := 2) hx hb hts in_X4 hown hK.1 hP 0 rfl rfl 1 (by decide) fl_309 (fun _ h9 => h9) rfl dX6_line_160 ?_
                exact nv_retGX hq hx hb hr hlocks (Nat.le_of_ble_eq_true rfl) (Nat.le_of_ble_eq_true rfl) (nar_i _) (if_pos c1) (by rw [if_pos c1, et_dk]; unfold lnD; rw [if_neg hz9, if_neg (show ¬ G (80 + dk) = 1 by omega), if_neg (show ¬ G (64 + dk) = 0 by omega)] <;> rfl) hS (by rw [if_pos c1, if_pos c1, et_dk]; exact ⟨hPo, ⟨u, hR, hk, hPh⟩, hPi, hPs, hPp, hPw, tx_of (F0 := F9) (Nat.le_trans (lnD_len G dk) (by decide)) (by unfold lnD; rw [if_neg hz9, if_neg (show ¬ G (80 + dk) = 1 by omega), if_neg (show ¬ G (64 + dk) = 0 by omega)]; exact hPt)⟩) dX6_line_163
            · refine lv_aload_n hx hb dX6_line_117 rfl (lv_at hl 2 rfl) ?_
              refine va_get (D := D) (ci := 8) (v := .ref ((cAd AD 160) 0)) (C := RX6) (T := TX6) (N := 11) hx hb hts in_X6 hown hK.1 hPo 0 rfl rfl 4 (by decide) fl_36 (fun _ h9 => h9) rfl dX6_line_118 ?_
              refine lv_bipush (v := nI 43) hx hb dX6_line_121 (by decide) ?_
              refine nv_kGv (va_runV (As := [.int (nI 43)]) (rest := []) ⟨hx, hb, hml, hown, hts⟩ (c_X4_put (x := cAd AD 160) l (fun _ _ => cD_of (b := 160) (n := 2) hI cAt_2 (by decide)) 43 (by first | omega | (split <;> omega)) (by omega)) (cwV 1 hts gX6_line_X4_put rfl rfl rfl (by decide +kernel) ⟨Nat.le_of_ble_eq_true rfl, Nat.le_of_ble_eq_true rfl⟩) (nt_pVn hT hS (cRg_A hAA (by decide)) hPt (cTx.recv hK.1 hPt)) rfl rfl hl.1 rfl (lv_room (Nat.le_of_ble_eq_true rfl)) dX6_line_123 ⟨Nat.le_of_ble_eq_true rfl, Nat.le_of_ble_eq_true rfl⟩) hS (cRg_A hAA (by decide)) (fun H locs hP1 hK1 hS => ?_)
              have hPt : va_P D vwCl (tw cC (cAd AD 160) (va_up (va_up (va_up (va_up (va_up (va_up (va_up (va_up (va_up F9 (0) ((gl (G (40 + dk))))) (1) (((if G (48 + dk) = 1 then 100 else 115)))) (2) ((97 + gEnd G dk))) (3) (48 + ((G (88 + dk))))) (4) (45)) (5) (48 + ((G (96 + dk))))) (6) (64)) (7) (48 + ((G (56 + dk) - 1)))) (8) (43)) (9)) H := hP1
              have hPo := cOn_Ob.keep hI hK1 hPo (Or.inl (by decide)) (by decide) (by decide)
              have hPh := (cOn_P (cAt_hw 1)).keep hI hK1 hPh (Or.inl (by decide)) (by decide) (by decide)
              have hPs := cOn_Sv.keep hI hK1 hPs (Or.inl (by decide)) (by decide) (by decide)
              have hPp := cOn_Pa.keep hI hK1 hPp (Or.inl (by decide)) (by decide) (by decide)
              have hPw := cOn_Wk.keep hI hK1 hPw (Or.inl (by decide)) (by decide) (by decide)
              have hPi := cOn_In.keep hI hK1 hPi (Or.inr (by decide)) (by decide) (by decide)
              refine lv_goto (tgt := 156) hx hb dX6_line_126 (by decide) ?_
              refine lv_aload_n hx hb dX6_line_156 rfl (lv_at hl 2 rfl) ?_
              refine va_get (D := D) (ci := 8) (v := .ref ((cAd AD 160) 0)) (C := RX6) (T := TX6) (N := 11) hx hb hts in_X6 hown hK.1 hPo 0 rfl rfl 4 (by decide) fl_36 (fun _ h9 => h9) rfl dX6_line_157 ?_
              have hP := hPt
              refine va_get (D := D) (ci := 6) (v := .int (nI 9)) (C := RX4) (T := TX4) (N := 2) hx hb hts in_X4 hown hK.1 hP 0 rfl rfl 1 (by decide) fl_309 (fun _ h9 => h9) rfl dX6_line_160 ?_
              exact nv_retGX hq hx hb hr hlocks (Nat.le_of_ble_eq_true rfl) (Nat.le_of_ble_eq_true rfl) (nar_i _) (if_pos c1) (by rw [if_pos c1, et_dk]; unfold lnD; rw [if_neg hz9, if_pos (show G (80 + dk) = 1 by omega)] <;> rfl) hS (by rw [if_pos c1, if_pos c1, et_dk]; exact ⟨hPo, ⟨u, hR, hk, hPh⟩, hPi, hPs, hPp, hPw, tx_of (F0 := F9) (Nat.le_trans (lnD_len G dk) (by decide)) (by unfold lnD; rw [if_neg hz9, if_pos (show G (80 + dk) = 1 by omega)]; exact hPt)⟩) dX6_line_163
        · exact absurd c5 (by decide)

set_option maxHeartbeats 1000000 in
set_option maxRecDepth 100000 in
theorem c_X6_endings (l : Launch) (hl9 : l.stackTraces = false) {D : va_G} {cI cC cD cR : ClassId} {sa : sA} {A : Nat → Prop} {AD : Nat → Nat} {G Sv Hi In Le : Nat → Nat} {b hs ch ty wy ln : Nat} {ea ra wd : Int32} (hG : gWf b G) (hI : cInj AD) (hAA : ∀ i, i < 165 → A (AD i)) (a : Int32) : vx_Met l yX6_endings wsX6_endings ({ frames := 7, cells := 1, slots := 6, locals := 102 }) (va_Pc [.ref (AD 0), .int a] (tPre D [(cI, .int), (cC, .char), (cD, .object "DoorDialect$Door"), (cR, .object "DoorDialect$House")] nN sa A (cW D cI cC cD cR AD G Sv Hi In Le hs ch ty wy ln ea ra wd))) (gQX (if iR a 3 then 0 else 1) ((if iR a 3 then nI 9 else 0)) (cW D cI cC cD cR AD G Sv Hi In ((if iR a 3 then wrL (enD G (tN a)) Le 0 else Le)) hs ch ty wy ((if iR a 3 then 9 else ln)) ea ra wd) A) (xQ ["java/lang/IllegalArgumentException"] (if iR a 3 then 0 else 1) (cW D cI cC cD cR AD G Sv Hi In ((if iR a 3 then wrL (enD G (tN a)) Le 0 else Le)) hs ch ty wy ((if iR a 3 then 9 else ln)) ea ra wd) A) 1 6 A := by
  refine nv_metX (cc := cX6_endings) (maxL := 4) (ret := (some .int)) (by decide) rfl (Nat.le_of_ble_eq_true rfl) ?_
  intro p0 e0 s m0 args below meth c0 Q hq hargs hnA hout hpre ls hl
  obtain ⟨hx, hb, hr, hts, hown, hlocks, hml⟩ := hnA
  obtain ⟨hP, hT⟩ := hpre
  have hK := hT.1
  have hown : s.vm.findClass RX6 = some m0.cls := hown
  obtain ⟨hPo, ⟨u, hR, hk, hPh⟩, hPi, hPs, hPp, hPw, hPt⟩ := hP
  have hPo : va_P D vwCl (cOb AD (hs) (wy) (wd) (ea) (ra)) s.heap := hPo
  have hPh : va_P D vwCl (hw cI cD (cAd AD 1) u) s.heap := hPh
  have hl : lv_has ls 4 [(0, .ref (AD 0)), (1, .int a)] := hl
  have hS : va_S A s.heap s.heap [] := va_S.rf
  have in_X4 : ∀ w ∈ wsX40, w ∈ wsX6_endings := by decide +kernel
  have in_X6 : ∀ w ∈ wsX60, w ∈ wsX6_endings := by decide +kernel
  have fl_10 := hts (.fieldLink RX6 10 "DoorDialect" "house" "LDoorDialect$House;") (by decide +kernel)
  have fl_36 := hts (.fieldLink RX6 36 "DoorDialect" "text" "LDoorDialect$Text;") (by decide +kernel)
  have fl_309 := hts (.fieldLink RX6 309 "DoorDialect$Text" "length" "I") (by decide +kernel)
  obtain ⟨g_b, g_k, g_0, g_1, g_2, g_e, g_d, g_t, g_y, g_s, g_h⟩ := id hG
  have zq0 : G 0 = G 0 := rfl
  have l3 := hG.lt (k := 3) (by decide)
  have l4 := hG.lt (k := 4) (by decide)
  have l5 := hG.lt (k := 5) (by decide)
  refine lv_iload_n hx hb dX6_endings_0 rfl (lv_at hl 1 rfl) ?_
  refine nv_kGXv (vx_runS (As := [.int a]) (rest := []) ⟨hx, hb, hml, hown, hts⟩ (c_X6_requireDeclension l hl9 (A := fun _ => False) (J := cJ D cI cC cD cR AD u Sv Hi In Le hs ch ty wy ln ea ra wd) (fun _ _ h9 h8 => h8.grow h9) ((a))) (va_cwS 1 hts gX6_endings_X6_requireDeclension rfl rfl rfl (by decide +kernel) ⟨Nat.le_of_ble_eq_true rfl, Nat.le_of_ble_eq_true rfl⟩) (nt_pSn hT hS (fun _ h9 => h9.elim) ⟨hPo, hPh, hPi, hPs, hPp, hPw, hPt⟩) rfl rfl hl.1 rfl (lv_room (Nat.le_of_ble_eq_true rfl)) dX6_endings_1 ⟨Nat.le_of_ble_eq_true rfl, Nat.le_of_ble_eq_true rfl⟩) hS (fun _ h9 => h9.elim) hq hout hlocks (Nat.le_of_ble_eq_true rfl) (Nat.le_of_ble_eq_true rfl) (fun H h0 hP1 hK1 => ?_) (fun H locs h0 hP1 hK1 hS => ?_)
  · have hn : ¬ iR ((a)) 3 := fun q => h0 (if_pos q)
    exact ⟨by rw [if_neg hn]; exact Nat.one_ne_zero, by first | rw [if_neg hn, if_neg hn] <;> rfl | rw [if_neg hn] <;> rfl, by rw [if_neg hn, if_neg hn]; exact hP1.W hR hk⟩
  obtain ⟨hPo, hPh, hPi, hPs, hPp, hPw, hPt⟩ := hP1
  have c1 : iR ((a)) 3 := if01 h0
  have c1k := c1
  obtain ⟨ak, h_ak, rfl⟩ := iR_of c1k (by decide)
  have et_ak : tN (nI ak) = ak := tN_nI (by omega)
  obtain ⟨F9, hF9, hln9, hPt⟩ := hPt
  have hx00 := gEnds_le hG (a := ak) (z := 0) (by omega) (by omega) 0 (by omega)
  have hx01 := gEnds_le hG (a := ak) (z := 0) (by omega) (by omega) 1 (by omega)
  have hx02 := gEnds_le hG (a := ak) (z := 0) (by omega) (by omega) 2 (by omega)
  have hx03 := gEnds_le hG (a := ak) (z := 0) (by omega) (by omega) 3 (by omega)
  have hx10 := gEnds_le hG (a := ak) (z := 1) (by omega) (by omega) 0 (by omega)
  have hx11 := gEnds_le hG (a := ak) (z := 1) (by omega) (by omega) 1 (by omega)
  have hx12 := gEnds_le hG (a := ak) (z := 1) (by omega) (by omega) 2 (by omega)
  have hx13 := gEnds_le hG (a := ak) (z := 1) (by omega) (by omega) 3 (by omega)
  refine lv_aload_n hx hb dX6_endings_4 rfl (lv_at hl 0 rfl) ?_
  refine va_get (D := D) (ci := 8) (v := .ref ((cAd AD 160) 0)) (C := RX6) (T := TX6) (N := 11) hx hb hts in_X6 hown hK.1 hPo 0 rfl rfl 4 (by decide) fl_36 (fun _ h9 => h9) rfl dX6_endings_5 ?_
  refine nv_kGv (va_runV (As := []) (rest := []) ⟨hx, hb, hml, hown, hts⟩ (c_X4_begin (x := cAd AD 160) l (fun _ _ => cD_of (b := 160) (n := 2) hI cAt_2 (by decide)) ) (cwV 0 hts gX6_endings_X4_begin rfl rfl rfl (by decide +kernel) ⟨Nat.le_of_ble_eq_true rfl, Nat.le_of_ble_eq_true rfl⟩) (nt_pVn hT hS (cRg_A hAA (by decide)) hPt (cTx.recv hK.1 hPt)) rfl rfl hl.1 rfl (lv_room (Nat.le_of_ble_eq_true rfl)) dX6_endings_8 ⟨Nat.le_of_ble_eq_true rfl, Nat.le_of_ble_eq_true rfl⟩) hS (cRg_A hAA (by decide)) (fun H locs hP1 hK1 hS => ?_)
  have hPt : va_P D vwCl (tw cC (cAd AD 160) F9 (0)) H := hP1
  have hPo := cOn_Ob.keep hI hK1 hPo (Or.inl (by decide)) (by decide) (by decide)
  have hPh := (cOn_P (cAt_hw 1)).keep hI hK1 hPh (Or.inl (by decide)) (by decide) (by decide)
  have hPs := cOn_Sv.keep hI hK1 hPs (Or.inl (by decide)) (by decide) (by decide)
  have hPp := cOn_Pa.keep hI hK1 hPp (Or.inl (by decide)) (by decide) (by decide)
  have hPw := cOn_Wk.keep hI hK1 hPw (Or.inl (by decide)) (by decide) (by decide)
  have hPi := cOn_In.keep hI hK1 hPi (Or.inr (by decide)) (by decide) (by decide)
  refine lv_iconst (v := nI 0) hx hb dX6_endings_11 (by decide) ?_
  refine lv_istore_n (lv' := [(2, .int (nI 0)), (0, .ref (AD 0)), (1, .int (nI ak))]) hx hb dX6_endings_12 rfl hl (by decide) rfl (fun ls hl => ?_)
  refine lv_iload_n hx hb dX6_endings_13 rfl (lv_at hl 0 rfl) ?_
  refine lv_iconst (v := nI 2) hx hb dX6_endings_14 (by decide) ?_
  refine nv_icmp_ge (tgt := 67) hx hb dX6_endings_15 (by decide) (by omega) (by omega) (fun c2 => ?_) (fun c2 => ?_)
  · exact absurd c2 (by decide)
  · refine lv_iload_n hx hb dX6_endings_18 rfl (lv_at hl 0 rfl) ?_
    refine nv_if_le (tgt := 31) hx hb dX6_endings_19 (by decide) (by omega) (fun c3 => ?_) (fun c3 => ?_)
    · refine lv_iconst (v := nI 0) hx hb dX6_endings_31 (by decide) ?_
      refine lv_istore_n (lv' := [(3, .int (nI 0)), (2, .int (nI 0)), (0, .ref (AD 0)), (1, .int (nI ak))]) hx hb dX6_endings_32 rfl hl (by decide) rfl (fun ls hl => ?_)
      refine lv_iload_n hx hb dX6_endings_33 rfl (lv_at hl 0 rfl) ?_
      refine lv_iconst (v := nI 4) hx hb dX6_endings_34 (by decide) ?_
      refine nv_icmp_ge (tgt := 61) hx hb dX6_endings_35 (by decide) (by omega) (by omega) (fun c4 => ?_) (fun c4 => ?_)
      · exact absurd c4 (by decide)
      · refine lv_aload_n hx hb dX6_endings_38 rfl (lv_at hl 2 rfl) ?_
        refine va_get (D := D) (ci := 8) (v := .ref ((cAd AD 160) 0)) (C := RX6) (T := TX6) (N := 11) hx hb hts in_X6 hown hK.1 hPo 0 rfl rfl 4 (by decide) fl_36 (fun _ h9 => h9) rfl dX6_endings_39 ?_
        refine lv_aload_n hx hb dX6_endings_42 rfl (lv_at hl 2 rfl) ?_
        refine va_get (D := D) (ci := 8) (v := .ref ((cAd AD 1) 0)) (C := RX6) (T := TX6) (N := 11) hx hb hts in_X6 hown hK.1 hPo 0 rfl rfl 0 (by decide) fl_10 (fun _ h9 => h9) rfl dX6_endings_43 ?_
        refine lv_iload_n hx hb dX6_endings_46 rfl (lv_at hl 3 rfl) ?_
        refine lv_iload_n hx hb dX6_endings_47 rfl (lv_at hl 0 rfl) ?_
        refine lv_iload_n hx hb dX6_endings_48 rfl (lv_at hl 1 rfl) ?_
        refine nv_kS (va_runV (As := [.int (nI ak), .int (nI 0), .int (nI 0)]) (rest := [.ref ((cAd AD 160) 0)]) ⟨hx, hb, hml, hown, hts⟩ (c_X1_signAt l hR hG ak 0 0 (by omega) (by omega) (by omega)) (cwV 3 hts gX6_endings_X1_signAt rfl rfl rfl (by decide +kernel) ⟨Nat.le_of_ble_eq_true rfl, Nat.le_of_ble_eq_true rfl⟩) (nt_pV hT hS hPh (va_recv hK.1 hPh (ci := 3) (q0 := 0) rfl rfl)) rfl rfl hl.1 rfl (lv_room (Nat.le_of_ble_eq_true rfl)) dX6_endings_49 ⟨Nat.le_of_ble_eq_true rfl, Nat.le_of_ble_eq_true rfl⟩) ?_
        refine nv_kGv (va_runV (As := [.int (nI (97 + G (gEndAt ak 0 0)))]) (rest := []) ⟨hx, hb, hml, hown, hts⟩ (c_X4_put (x := cAd AD 160) l (fun _ _ => cD_of (b := 160) (n := 2) hI cAt_2 (by decide)) ((97 + G (gEndAt ak 0 0))) (by first | omega | (split <;> omega)) (by omega)) (cwV 1 hts gX6_endings_X4_put rfl rfl rfl (by decide +kernel) ⟨Nat.le_of_ble_eq_true rfl, Nat.le_of_ble_eq_true rfl⟩) (nt_pVn hT hS (cRg_A hAA (by decide)) hPt (cTx.recv hK.1 hPt)) rfl rfl hl.1 rfl (lv_room (Nat.le_of_ble_eq_true rfl)) dX6_endings_52 ⟨Nat.le_of_ble_eq_true rfl, Nat.le_of_ble_eq_true rfl⟩) hS (cRg_A hAA (by decide)) (fun H locs hP1 hK1 hS => ?_)
        have hPt : va_P D vwCl (tw cC (cAd AD 160) (va_up F9 (0) ((97 + G (gEndAt ak 0 0)))) (1)) H := hP1
        have hPo := cOn_Ob.keep hI hK1 hPo (Or.inl (by decide)) (by decide) (by decide)
        have hPh := (cOn_P (cAt_hw 1)).keep hI hK1 hPh (Or.inl (by decide)) (by decide) (by decide)
        have hPs := cOn_Sv.keep hI hK1 hPs (Or.inl (by decide)) (by decide) (by decide)
        have hPp := cOn_Pa.keep hI hK1 hPp (Or.inl (by decide)) (by decide) (by decide)
        have hPw := cOn_Wk.keep hI hK1 hPw (Or.inl (by decide)) (by decide) (by decide)
        have hPi := cOn_In.keep hI hK1 hPi (Or.inr (by decide)) (by decide) (by decide)
        refine lv_iinc (v := nI (1)) (lv' := [(3, .int (nI 1)), (2, .int (nI 0)), (0, .ref (AD 0)), (1, .int (nI ak))]) hx hb dX6_endings_55 hl (k := 0) rfl (by show nI _ + Int32.ofInt 1 = _; exact nI_add _ 1) (by decide) rfl (fun ls hl => ?_)
        refine lv_goto (tgt := 33) hx hb dX6_endings_58 (by decide) ?_
        refine lv_iload_n hx hb dX6_endings_33 rfl (lv_at hl 0 rfl) ?_
        refine lv_iconst (v := nI 4) hx hb dX6_endings_34 (by decide) ?_
        refine nv_icmp_ge (tgt := 61) hx hb dX6_endings_35 (by decide) (by omega) (by omega) (fun c5 => ?_) (fun c5 => ?_)
        · exact absurd c5 (by decide)
        · refine lv_aload_n hx hb dX6_endings_38 rfl (lv_at hl 2 rfl) ?_
          refine va_get (D := D) (ci := 8) (v := .ref ((cAd AD 160) 0)) (C := RX6) (T := TX6) (N := 11) hx hb hts in_X6 hown hK.1 hPo 0 rfl rfl 4 (by decide) fl_36 (fun _ h9 => h9) rfl dX6_endings_39 ?_
          refine lv_aload_n hx hb dX6_endings_42 rfl (lv_at hl 2 rfl) ?_
          refine va_get (D := D) (ci := 8) (v := .ref ((cAd AD 1) 0)) (C := RX6) (T := TX6) (N := 11) hx hb hts in_X6 hown hK.1 hPo 0 rfl rfl 0 (by decide) fl_10 (fun _ h9 => h9) rfl dX6_endings_43 ?_
          refine lv_iload_n hx hb dX6_endings_46 rfl (lv_at hl 3 rfl) ?_
          refine lv_iload_n hx hb dX6_endings_47 rfl (lv_at hl 0 rfl) ?_
          refine lv_iload_n hx hb dX6_endings_48 rfl (lv_at hl 1 rfl) ?_
          refine nv_kS (va_runV (As := [.int (nI ak), .int (nI 1), .int (nI 0)]) (rest := [.ref ((cAd AD 160) 0)]) ⟨hx, hb, hml, hown, hts⟩ (c_X1_signAt l hR hG ak 1 0 (by omega) (by omega) (by omega)) (cwV 3 hts gX6_endings_X1_signAt rfl rfl rfl (by decide +kernel) ⟨Nat.le_of_ble_eq_true rfl, Nat.le_of_ble_eq_true rfl⟩) (nt_pV hT hS hPh (va_recv hK.1 hPh (ci := 3) (q0 := 0) rfl rfl)) rfl rfl hl.1 rfl (lv_room (Nat.le_of_ble_eq_true rfl)) dX6_endings_49 ⟨Nat.le_of_ble_eq_true rfl, Nat.le_of_ble_eq_true rfl⟩) ?_
          refine nv_kGv (va_runV (As := [.int (nI (97 + G (gEndAt ak 1 0)))]) (rest := []) ⟨hx, hb, hml, hown, hts⟩ (c_X4_put (x := cAd AD 160) l (fun _ _ => cD_of (b := 160) (n := 2) hI cAt_2 (by decide)) ((97 + G (gEndAt ak 1 0))) (by first | omega | (split <;> omega)) (by omega)) (cwV 1 hts gX6_endings_X4_put rfl rfl rfl (by decide +kernel) ⟨Nat.le_of_ble_eq_true rfl, Nat.le_of_ble_eq_true rfl⟩) (nt_pVn hT hS (cRg_A hAA (by decide)) hPt (cTx.recv hK.1 hPt)) rfl rfl hl.1 rfl (lv_room (Nat.le_of_ble_eq_true rfl)) dX6_endings_52 ⟨Nat.le_of_ble_eq_true rfl, Nat.le_of_ble_eq_true rfl⟩) hS (cRg_A hAA (by decide)) (fun H locs hP1 hK1 hS => ?_)
          have hPt : va_P D vwCl (tw cC (cAd AD 160) (va_up (va_up F9 (0) ((97 + G (gEndAt ak 0 0)))) (1) ((97 + G (gEndAt ak 1 0)))) (2)) H := hP1
          have hPo := cOn_Ob.keep hI hK1 hPo (Or.inl (by decide)) (by decide) (by decide)
          have hPh := (cOn_P (cAt_hw 1)).keep hI hK1 hPh (Or.inl (by decide)) (by decide) (by decide)
          have hPs := cOn_Sv.keep hI hK1 hPs (Or.inl (by decide)) (by decide) (by decide)
          have hPp := cOn_Pa.keep hI hK1 hPp (Or.inl (by decide)) (by decide) (by decide)
          have hPw := cOn_Wk.keep hI hK1 hPw (Or.inl (by decide)) (by decide) (by decide)
          have hPi := cOn_In.keep hI hK1 hPi (Or.inr (by decide)) (by decide) (by decide)
          refine lv_iinc (v := nI (2)) (lv' := [(3, .int (nI 2)), (2, .int (nI 0)), (0, .ref (AD 0)), (1, .int (nI ak))]) hx hb dX6_endings_55 hl (k := 0) rfl (by show nI _ + Int32.ofInt 1 = _; exact nI_add _ 1) (by decide) rfl (fun ls hl => ?_)
          refine lv_goto (tgt := 33) hx hb dX6_endings_58 (by decide) ?_
          refine lv_iload_n hx hb dX6_endings_33 rfl (lv_at hl 0 rfl) ?_
          refine lv_iconst (v := nI 4) hx hb dX6_endings_34 (by decide) ?_
          refine nv_icmp_ge (tgt := 61) hx hb dX6_endings_35 (by decide) (by omega) (by omega) (fun c6 => ?_) (fun c6 => ?_)
          · exact absurd c6 (by decide)
          · refine lv_aload_n hx hb dX6_endings_38 rfl (lv_at hl 2 rfl) ?_
            refine va_get (D := D) (ci := 8) (v := .ref ((cAd AD 160) 0)) (C := RX6) (T := TX6) (N := 11) hx hb hts in_X6 hown hK.1 hPo 0 rfl rfl 4 (by decide) fl_36 (fun _ h9 => h9) rfl dX6_endings_39 ?_
            refine lv_aload_n hx hb dX6_endings_42 rfl (lv_at hl 2 rfl) ?_
            refine va_get (D := D) (ci := 8) (v := .ref ((cAd AD 1) 0)) (C := RX6) (T := TX6) (N := 11) hx hb hts in_X6 hown hK.1 hPo 0 rfl rfl 0 (by decide) fl_10 (fun _ h9 => h9) rfl dX6_endings_43 ?_
            refine lv_iload_n hx hb dX6_endings_46 rfl (lv_at hl 3 rfl) ?_
            refine lv_iload_n hx hb dX6_endings_47 rfl (lv_at hl 0 rfl) ?_
            refine lv_iload_n hx hb dX6_endings_48 rfl (lv_at hl 1 rfl) ?_
            refine nv_kS (va_runV (As := [.int (nI ak), .int (nI 2), .int (nI 0)]) (rest := [.ref ((cAd AD 160) 0)]) ⟨hx, hb, hml, hown, hts⟩ (c_X1_signAt l hR hG ak 2 0 (by omega) (by omega) (by omega)) (cwV 3 hts gX6_endings_X1_signAt rfl rfl rfl (by decide +kernel) ⟨Nat.le_of_ble_eq_true rfl, Nat.le_of_ble_eq_true rfl⟩) (nt_pV hT hS hPh (va_recv hK.1 hPh (ci := 3) (q0 := 0) rfl rfl)) rfl rfl hl.1 rfl (lv_room (Nat.le_of_ble_eq_true rfl)) dX6_endings_49 ⟨Nat.le_of_ble_eq_true rfl, Nat.le_of_ble_eq_true rfl⟩) ?_
            refine nv_kGv (va_runV (As := [.int (nI (97 + G (gEndAt ak 2 0)))]) (rest := []) ⟨hx, hb, hml, hown, hts⟩ (c_X4_put (x := cAd AD 160) l (fun _ _ => cD_of (b := 160) (n := 2) hI cAt_2 (by decide)) ((97 + G (gEndAt ak 2 0))) (by first | omega | (split <;> omega)) (by omega)) (cwV 1 hts gX6_endings_X4_put rfl rfl rfl (by decide +kernel) ⟨Nat.le_of_ble_eq_true rfl, Nat.le_of_ble_eq_true rfl⟩) (nt_pVn hT hS (cRg_A hAA (by decide)) hPt (cTx.recv hK.1 hPt)) rfl rfl hl.1 rfl (lv_room (Nat.le_of_ble_eq_true rfl)) dX6_endings_52 ⟨Nat.le_of_ble_eq_true rfl, Nat.le_of_ble_eq_true rfl⟩) hS (cRg_A hAA (by decide)) (fun H locs hP1 hK1 hS => ?_)
            have hPt : va_P D vwCl (tw cC (cAd AD 160) (va_up (va_up (va_up F9 (0) ((97 + G (gEndAt ak 0 0)))) (1) ((97 + G (gEndAt ak 1 0)))) (2) ((97 + G (gEndAt ak 2 0)))) (3)) H := hP1
            have hPo := cOn_Ob.keep hI hK1 hPo (Or.inl (by decide)) (by decide) (by decide)
            have hPh := (cOn_P (cAt_hw 1)).keep hI hK1 hPh (Or.inl (by decide)) (by decide) (by decide)
            have hPs := cOn_Sv.keep hI hK1 hPs (Or.inl (by decide)) (by decide) (by decide)
            have hPp := cOn_Pa.keep hI hK1 hPp (Or.inl (by decide)) (by decide) (by decide)
            have hPw := cOn_Wk.keep hI hK1 hPw (Or.inl (by decide)) (by decide) (by decide)
            have hPi := cOn_In.keep hI hK1 hPi (Or.inr (by decide)) (by decide) (by decide)
            refine lv_iinc (v := nI (3)) (lv' := [(3, .int (nI 3)), (2, .int (nI 0)), (0, .ref (AD 0)), (1, .int (nI ak))]) hx hb dX6_endings_55 hl (k := 0) rfl (by show nI _ + Int32.ofInt 1 = _; exact nI_add _ 1) (by decide) rfl (fun ls hl => ?_)
            refine lv_goto (tgt := 33) hx hb dX6_endings_58 (by decide) ?_
            refine lv_iload_n hx hb dX6_endings_33 rfl (lv_at hl 0 rfl) ?_
            refine lv_iconst (v := nI 4) hx hb dX6_endings_34 (by decide) ?_
            refine nv_icmp_ge (tgt := 61) hx hb dX6_endings_35 (by decide) (by omega) (by omega) (fun c7 => ?_) (fun c7 => ?_)
            · exact absurd c7 (by decide)
            · refine lv_aload_n hx hb dX6_endings_38 rfl (lv_at hl 2 rfl) ?_
              refine va_get (D := D) (ci := 8) (v := .ref ((cAd AD 160) 0)) (C := RX6) (T := TX6) (N := 11) hx hb hts in_X6 hown hK.1 hPo 0 rfl rfl 4 (by decide) fl_36 (fun _ h9 => h9) rfl dX6_endings_39 ?_
              refine lv_aload_n hx hb dX6_endings_42 rfl (lv_at hl 2 rfl) ?_
              refine va_get (D := D) (ci := 8) (v := .ref ((cAd AD 1) 0)) (C := RX6) (T := TX6) (N := 11) hx hb hts in_X6 hown hK.1 hPo 0 rfl rfl 0 (by decide) fl_10 (fun _ h9 => h9) rfl dX6_endings_43 ?_
              refine lv_iload_n hx hb dX6_endings_46 rfl (lv_at hl 3 rfl) ?_
              refine lv_iload_n hx hb dX6_endings_47 rfl (lv_at hl 0 rfl) ?_
              refine lv_iload_n hx hb dX6_endings_48 rfl (lv_at hl 1 rfl) ?_
              refine nv_kS (va_runV (As := [.int (nI ak), .int (nI 3), .int (nI 0)]) (rest := [.ref ((cAd AD 160) 0)]) ⟨hx, hb, hml, hown, hts⟩ (c_X1_signAt l hR hG ak 3 0 (by omega) (by omega) (by omega)) (cwV 3 hts gX6_endings_X1_signAt rfl rfl rfl (by decide +kernel) ⟨Nat.le_of_ble_eq_true rfl, Nat.le_of_ble_eq_true rfl⟩) (nt_pV hT hS hPh (va_recv hK.1 hPh (ci := 3) (q0 := 0) rfl rfl)) rfl rfl hl.1 rfl (lv_room (Nat.le_of_ble_eq_true rfl)) dX6_endings_49 ⟨Nat.le_of_ble_eq_true rfl, Nat.le_of_ble_eq_true rfl⟩) ?_
              refine nv_kGv (va_runV (As := [.int (nI (97 + G (gEndAt ak 3 0)))]) (rest := []) ⟨hx, hb, hml, hown, hts⟩ (c_X4_put (x := cAd AD 160) l (fun _ _ => cD_of (b := 160) (n := 2) hI cAt_2 (by decide)) ((97 + G (gEndAt ak 3 0))) (by first | omega | (split <;> omega)) (by omega)) (cwV 1 hts gX6_endings_X4_put rfl rfl rfl (by decide +kernel) ⟨Nat.le_of_ble_eq_true rfl, Nat.le_of_ble_eq_true rfl⟩) (nt_pVn hT hS (cRg_A hAA (by decide)) hPt (cTx.recv hK.1 hPt)) rfl rfl hl.1 rfl (lv_room (Nat.le_of_ble_eq_true rfl)) dX6_endings_52 ⟨Nat.le_of_ble_eq_true rfl, Nat.le_of_ble_eq_true rfl⟩) hS (cRg_A hAA (by decide)) (fun H locs hP1 hK1 hS => ?_)
              have hPt : va_P D vwCl (tw cC (cAd AD 160) (va_up (va_up (va_up (va_up F9 (0) ((97 + G (gEndAt ak 0 0)))) (1) ((97 + G (gEndAt ak 1 0)))) (2) ((97 + G (gEndAt ak 2 0)))) (3) ((97 + G (gEndAt ak 3 0)))) (4)) H := hP1
              have hPo := cOn_Ob.keep hI hK1 hPo (Or.inl (by decide)) (by decide) (by decide)
              have hPh := (cOn_P (cAt_hw 1)).keep hI hK1 hPh (Or.inl (by decide)) (by decide) (by decide)
              have hPs := cOn_Sv.keep hI hK1 hPs (Or.inl (by decide)) (by decide) (by decide)
              have hPp := cOn_Pa.keep hI hK1 hPp (Or.inl (by decide)) (by decide) (by decide)
              have hPw := cOn_Wk.keep hI hK1 hPw (Or.inl (by decide)) (by decide) (by decide)
              have hPi := cOn_In.keep hI hK1 hPi (Or.inr (by decide)) (by decide) (by decide)
              refine lv_iinc (v := nI (4)) (lv' := [(3, .int (nI 4)), (2, .int (nI 0)), (0, .ref (AD 0)), (1, .int (nI ak))]) hx hb dX6_endings_55 hl (k := 0) rfl (by show nI _ + Int32.ofInt 1 = _; exact nI_add _ 1) (by decide) rfl (fun ls hl => ?_)
              refine lv_goto (tgt := 33) hx hb dX6_endings_58 (by decide) ?_
              refine lv_iload_n hx hb dX6_endings_33 rfl (lv_at hl 0 rfl) ?_
              refine lv_iconst (v := nI 4) hx hb dX6_endings_34 (by decide) ?_
              refine nv_icmp_ge (tgt := 61) hx hb dX6_endings_35 (by decide) (by omega) (by omega) (fun c8 => ?_) (fun c8 => ?_)
              · refine lv_iinc (v := nI (1)) (lv' := [(2, .int (nI 1)), (3, .int (nI 4)), (0, .ref (AD 0)), (1, .int (nI ak))]) hx hb dX6_endings_61 hl (k := 1) rfl (by show nI _ + Int32.ofInt 1 = _; exact nI_add _ 1) (by decide) rfl (fun ls hl => ?_)
                refine lv_goto (tgt := 13) hx hb dX6_endings_64 (by decide) ?_
                refine lv_iload_n hx hb dX6_endings_13 rfl (lv_at hl 0 rfl) ?_
                refine lv_iconst (v := nI 2) hx hb dX6_endings_14 (by decide) ?_
                refine nv_icmp_ge (tgt := 67) hx hb dX6_endings_15 (by decide) (by omega) (by omega) (fun c9 => ?_) (fun c9 => ?_)
                · exact absurd c9 (by decide)
                · refine lv_iload_n hx hb dX6_endings_18 rfl (lv_at hl 0 rfl) ?_
                  refine nv_if_le (tgt := 31) hx hb dX6_endings_19 (by decide) (by omega) (fun c10 => ?_) (fun c10 => ?_)
                  · exact absurd c10 (by decide)
                  · refine lv_aload_n hx hb dX6_endings_22 rfl (lv_at hl 2 rfl) ?_
                    refine va_get (D := D) (ci := 8) (v := .ref ((cAd AD 160) 0)) (C := RX6) (T := TX6) (N := 11) hx hb hts in_X6 hown hK.1 hPo 0 rfl rfl 4 (by decide) fl_36 (fun _ h9 => h9) rfl dX6_endings_23 ?_
                    refine lv_bipush (v := nI 47) hx hb dX6_endings_26 (by decide) ?_
                    refine nv_kGv (va_runV (As := [.int (nI 47)]) (rest := []) ⟨hx, hb, hml, hown, hts⟩ (c_X4_put (x := cAd AD 160) l (fun _ _ => cD_of (b := 160) (n := 2) hI cAt_2 (by decide)) 47 (by first | omega | (split <;> omega)) (by omega)) (cwV 1 hts gX6_endings_X4_put rfl rfl rfl (by decide +kernel) ⟨Nat.le_of_ble_eq_true rfl, Nat.le_of_ble_eq_true rfl⟩) (nt_pVn hT hS (cRg_A hAA (by decide)) hPt (cTx.recv hK.1 hPt)) rfl rfl hl.1 rfl (lv_room (Nat.le_of_ble_eq_true rfl)) dX6_endings_28 ⟨Nat.le_of_ble_eq_true rfl, Nat.le_of_ble_eq_true rfl⟩) hS (cRg_A hAA (by decide)) (fun H locs hP1 hK1 hS => ?_)
                    have hPt : va_P D vwCl (tw cC (cAd AD 160) (va_up (va_up (va_up (va_up (va_up F9 (0) ((97 + G (gEndAt ak 0 0)))) (1) ((97 + G (gEndAt ak 1 0)))) (2) ((97 + G (gEndAt ak 2 0)))) (3) ((97 + G (gEndAt ak 3 0)))) (4) (47)) (5)) H := hP1
                    have hPo := cOn_Ob.keep hI hK1 hPo (Or.inl (by decide)) (by decide) (by decide)
                    have hPh := (cOn_P (cAt_hw 1)).keep hI hK1 hPh (Or.inl (by decide)) (by decide) (by decide)
                    have hPs := cOn_Sv.keep hI hK1 hPs (Or.inl (by decide)) (by decide) (by decide)
                    have hPp := cOn_Pa.keep hI hK1 hPp (Or.inl (by decide)) (by decide) (by decide)
                    have hPw := cOn_Wk.keep hI hK1 hPw (Or.inl (by decide)) (by decide) (by decide)
                    have hPi := cOn_In.keep hI hK1 hPi (Or.inr (by decide)) (by decide) (by decide)
                    refine lv_iconst (v := nI 0) hx hb dX6_endings_31 (by decide) ?_
                    refine lv_istore_n (lv' := [(3, .int (nI 0)), (2, .int (nI 1)), (0, .ref (AD 0)), (1, .int (nI ak))]) hx hb dX6_endings_32 rfl hl (by decide) rfl (fun ls hl => ?_)
                    refine lv_iload_n hx hb dX6_endings_33 rfl (lv_at hl 0 rfl) ?_
                    refine lv_iconst (v := nI 4) hx hb dX6_endings_34 (by decide) ?_
                    refine nv_icmp_ge (tgt := 61) hx hb dX6_endings_35 (by decide) (by omega) (by omega) (fun c11 => ?_) (fun c11 => ?_)
                    · exact absurd c11 (by decide)
                    · refine lv_aload_n hx hb dX6_endings_38 rfl (lv_at hl 2 rfl) ?_
                      refine va_get (D := D) (ci := 8) (v := .ref ((cAd AD 160) 0)) (C := RX6) (T := TX6) (N := 11) hx hb hts in_X6 hown hK.1 hPo 0 rfl rfl 4 (by decide) fl_36 (fun _ h9 => h9) rfl dX6_endings_39 ?_
                      refine lv_aload_n hx hb dX6_endings_42 rfl (lv_at hl 2 rfl) ?_
                      refine va_get (D := D) (ci := 8) (v := .ref ((cAd AD 1) 0)) (C := RX6) (T := TX6) (N := 11) hx hb hts in_X6 hown hK.1 hPo 0 rfl rfl 0 (by decide) fl_10 (fun _ h9 => h9) rfl dX6_endings_43 ?_
                      refine lv_iload_n hx hb dX6_endings_46 rfl (lv_at hl 3 rfl) ?_
                      refine lv_iload_n hx hb dX6_endings_47 rfl (lv_at hl 0 rfl) ?_
                      refine lv_iload_n hx hb dX6_endings_48 rfl (lv_at hl 1 rfl) ?_
                      refine nv_kS (va_runV (As := [.int (nI ak), .int (nI 0), .int (nI 1)]) (rest := [.ref ((cAd AD 160) 0)]) ⟨hx, hb, hml, hown, hts⟩ (c_X1_signAt l hR hG ak 0 1 (by omega) (by omega) (by omega)) (cwV 3 hts gX6_endings_X1_signAt rfl rfl rfl (by decide +kernel) ⟨Nat.le_of_ble_eq_true rfl, Nat.le_of_ble_eq_true rfl⟩) (nt_pV hT hS hPh (va_recv hK.1 hPh (ci := 3) (q0 := 0) rfl rfl)) rfl rfl hl.1 rfl (lv_room (Nat.le_of_ble_eq_true rfl)) dX6_endings_49 ⟨Nat.le_of_ble_eq_true rfl, Nat.le_of_ble_eq_true rfl⟩) ?_
                      refine nv_kGv (va_runV (As := [.int (nI (97 + G (gEndAt ak 0 1)))]) (rest := []) ⟨hx, hb, hml, hown, hts⟩ (c_X4_put (x := cAd AD 160) l (fun _ _ => cD_of (b := 160) (n := 2) hI cAt_2 (by decide)) ((97 + G (gEndAt ak 0 1))) (by first | omega | (split <;> omega)) (by omega)) (cwV 1 hts gX6_endings_X4_put rfl rfl rfl (by decide +kernel) ⟨Nat.le_of_ble_eq_true rfl, Nat.le_of_ble_eq_true rfl⟩) (nt_pVn hT hS (cRg_A hAA (by decide)) hPt (cTx.recv hK.1 hPt)) rfl rfl hl.1 rfl (lv_room (Nat.le_of_ble_eq_true rfl)) dX6_endings_52 ⟨Nat.le_of_ble_eq_true rfl, Nat.le_of_ble_eq_true rfl⟩) hS (cRg_A hAA (by decide)) (fun H locs hP1 hK1 hS => ?_)
                      have hPt : va_P D vwCl (tw cC (cAd AD 160) (va_up (va_up (va_up (va_up (va_up (va_up F9 (0) ((97 + G (gEndAt ak 0 0)))) (1) ((97 + G (gEndAt ak 1 0)))) (2) ((97 + G (gEndAt ak 2 0)))) (3) ((97 + G (gEndAt ak 3 0)))) (4) (47)) (5) ((97 + G (gEndAt ak 0 1)))) (6)) H := hP1
                      have hPo := cOn_Ob.keep hI hK1 hPo (Or.inl (by decide)) (by decide) (by decide)
                      have hPh := (cOn_P (cAt_hw 1)).keep hI hK1 hPh (Or.inl (by decide)) (by decide) (by decide)
                      have hPs := cOn_Sv.keep hI hK1 hPs (Or.inl (by decide)) (by decide) (by decide)
                      have hPp := cOn_Pa.keep hI hK1 hPp (Or.inl (by decide)) (by decide) (by decide)
                      have hPw := cOn_Wk.keep hI hK1 hPw (Or.inl (by decide)) (by decide) (by decide)
                      have hPi := cOn_In.keep hI hK1 hPi (Or.inr (by decide)) (by decide) (by decide)
                      refine lv_iinc (v := nI (1)) (lv' := [(3, .int (nI 1)), (2, .int (nI 1)), (0, .ref (AD 0)), (1, .int (nI ak))]) hx hb dX6_endings_55 hl (k := 0) rfl (by show nI _ + Int32.ofInt 1 = _; exact nI_add _ 1) (by decide) rfl (fun ls hl => ?_)
                      refine lv_goto (tgt := 33) hx hb dX6_endings_58 (by decide) ?_
                      refine lv_iload_n hx hb dX6_endings_33 rfl (lv_at hl 0 rfl) ?_
                      refine lv_iconst (v := nI 4) hx hb dX6_endings_34 (by decide) ?_
                      refine nv_icmp_ge (tgt := 61) hx hb dX6_endings_35 (by decide) (by omega) (by omega) (fun c12 => ?_) (fun c12 => ?_)
                      · exact absurd c12 (by decide)
                      · refine lv_aload_n hx hb dX6_endings_38 rfl (lv_at hl 2 rfl) ?_
                        refine va_get (D := D) (ci := 8) (v := .ref ((cAd AD 160) 0)) (C := RX6) (T := TX6) (N := 11) hx hb hts in_X6 hown hK.1 hPo 0 rfl rfl 4 (by decide) fl_36 (fun _ h9 => h9) rfl dX6_endings_39 ?_
                        refine lv_aload_n hx hb dX6_endings_42 rfl (lv_at hl 2 rfl) ?_
                        refine va_get (D := D) (ci := 8) (v := .ref ((cAd AD 1) 0)) (C := RX6) (T := TX6) (N := 11) hx hb hts in_X6 hown hK.1 hPo 0 rfl rfl 0 (by decide) fl_10 (fun _ h9 => h9) rfl dX6_endings_43 ?_
                        refine lv_iload_n hx hb dX6_endings_46 rfl (lv_at hl 3 rfl) ?_
                        refine lv_iload_n hx hb dX6_endings_47 rfl (lv_at hl 0 rfl) ?_
                        refine lv_iload_n hx hb dX6_endings_48 rfl (lv_at hl 1 rfl) ?_
                        refine nv_kS (va_runV (As := [.int (nI ak), .int (nI 1), .int (nI 1)]) (rest := [.ref ((cAd AD 160) 0)]) ⟨hx, hb, hml, hown, hts⟩ (c_X1_signAt l hR hG ak 1 1 (by omega) (by omega) (by omega)) (cwV 3 hts gX6_endings_X1_signAt rfl rfl rfl (by decide +kernel) ⟨Nat.le_of_ble_eq_true rfl, Nat.le_of_ble_eq_true rfl⟩) (nt_pV hT hS hPh (va_recv hK.1 hPh (ci := 3) (q0 := 0) rfl rfl)) rfl rfl hl.1 rfl (lv_room (Nat.le_of_ble_eq_true rfl)) dX6_endings_49 ⟨Nat.le_of_ble_eq_true rfl, Nat.le_of_ble_eq_true rfl⟩) ?_
                        refine nv_kGv (va_runV (As := [.int (nI (97 + G (gEndAt ak 1 1)))]) (rest := []) ⟨hx, hb, hml, hown, hts⟩ (c_X4_put (x := cAd AD 160) l (fun _ _ => cD_of (b := 160) (n := 2) hI cAt_2 (by decide)) ((97 + G (gEndAt ak 1 1))) (by first | omega | (split <;> omega)) (by omega)) (cwV 1 hts gX6_endings_X4_put rfl rfl rfl (by decide +kernel) ⟨Nat.le_of_ble_eq_true rfl, Nat.le_of_ble_eq_true rfl⟩) (nt_pVn hT hS (cRg_A hAA (by decide)) hPt (cTx.recv hK.1 hPt)) rfl rfl hl.1 rfl (lv_room (Nat.le_of_ble_eq_true rfl)) dX6_endings_52 ⟨Nat.le_of_ble_eq_true rfl, Nat.le_of_ble_eq_true rfl⟩) hS (cRg_A hAA (by decide)) (fun H locs hP1 hK1 hS => ?_)
                        have hPt : va_P D vwCl (tw cC (cAd AD 160) (va_up (va_up (va_up (va_up (va_up (va_up (va_up F9 (0) ((97 + G (gEndAt ak 0 0)))) (1) ((97 + G (gEndAt ak 1 0)))) (2) ((97 + G (gEndAt ak 2 0)))) (3) ((97 + G (gEndAt ak 3 0)))) (4) (47)) (5) ((97 + G (gEndAt ak 0 1)))) (6) ((97 + G (gEndAt ak 1 1)))) (7)) H := hP1
                        have hPo := cOn_Ob.keep hI hK1 hPo (Or.inl (by decide)) (by decide) (by decide)
                        have hPh := (cOn_P (cAt_hw 1)).keep hI hK1 hPh (Or.inl (by decide)) (by decide) (by decide)
                        have hPs := cOn_Sv.keep hI hK1 hPs (Or.inl (by decide)) (by decide) (by decide)
                        have hPp := cOn_Pa.keep hI hK1 hPp (Or.inl (by decide)) (by decide) (by decide)
                        have hPw := cOn_Wk.keep hI hK1 hPw (Or.inl (by decide)) (by decide) (by decide)
                        have hPi := cOn_In.keep hI hK1 hPi (Or.inr (by decide)) (by decide) (by decide)
                        refine lv_iinc (v := nI (2)) (lv' := [(3, .int (nI 2)), (2, .int (nI 1)), (0, .ref (AD 0)), (1, .int (nI ak))]) hx hb dX6_endings_55 hl (k := 0) rfl (by show nI _ + Int32.ofInt 1 = _; exact nI_add _ 1) (by decide) rfl (fun ls hl => ?_)
                        refine lv_goto (tgt := 33) hx hb dX6_endings_58 (by decide) ?_
                        refine lv_iload_n hx hb dX6_endings_33 rfl (lv_at hl 0 rfl) ?_
                        refine lv_iconst (v := nI 4) hx hb dX6_endings_34 (by decide) ?_
                        refine nv_icmp_ge (tgt := 61) hx hb dX6_endings_35 (by decide) (by omega) (by omega) (fun c13 => ?_) (fun c13 => ?_)
                        · exact absurd c13 (by decide)
                        · refine lv_aload_n hx hb dX6_endings_38 rfl (lv_at hl 2 rfl) ?_
                          refine va_get (D := D) (ci := 8) (v := .ref ((cAd AD 160) 0)) (C := RX6) (T := TX6) (N := 11) hx hb hts in_X6 hown hK.1 hPo 0 rfl rfl 4 (by decide) fl_36 (fun _ h9 => h9) rfl dX6_endings_39 ?_
                          refine lv_aload_n hx hb dX6_endings_42 rfl (lv_at hl 2 rfl) ?_
                          refine va_get (D := D) (ci := 8) (v := .ref ((cAd AD 1) 0)) (C := RX6) (T := TX6) (N := 11) hx hb hts in_X6 hown hK.1 hPo 0 rfl rfl 0 (by decide) fl_10 (fun _ h9 => h9) rfl dX6_endings_43 ?_
                          refine lv_iload_n hx hb dX6_endings_46 rfl (lv_at hl 3 rfl) ?_
                          refine lv_iload_n hx hb dX6_endings_47 rfl (lv_at hl 0 rfl) ?_
                          refine lv_iload_n hx hb dX6_endings_48 rfl (lv_at hl 1 rfl) ?_
                          refine nv_kS (va_runV (As := [.int (nI ak), .int (nI 2), .int (nI 1)]) (rest := [.ref ((cAd AD 160) 0)]) ⟨hx, hb, hml, hown, hts⟩ (c_X1_signAt l hR hG ak 2 1 (by omega) (by omega) (by omega)) (cwV 3 hts gX6_endings_X1_signAt rfl rfl rfl (by decide +kernel) ⟨Nat.le_of_ble_eq_true rfl, Nat.le_of_ble_eq_true rfl⟩) (nt_pV hT hS hPh (va_recv hK.1 hPh (ci := 3) (q0 := 0) rfl rfl)) rfl rfl hl.1 rfl (lv_room (Nat.le_of_ble_eq_true rfl)) dX6_endings_49 ⟨Nat.le_of_ble_eq_true rfl, Nat.le_of_ble_eq_true rfl⟩) ?_
                          refine nv_kGv (va_runV (As := [.int (nI (97 + G (gEndAt ak 2 1)))]) (rest := []) ⟨hx, hb, hml, hown, hts⟩ (c_X4_put (x := cAd AD 160) l (fun _ _ => cD_of (b := 160) (n := 2) hI cAt_2 (by decide)) ((97 + G (gEndAt ak 2 1))) (by first | omega | (split <;> omega)) (by omega)) (cwV 1 hts gX6_endings_X4_put rfl rfl rfl (by decide +kernel) ⟨Nat.le_of_ble_eq_true rfl, Nat.le_of_ble_eq_true rfl⟩) (nt_pVn hT hS (cRg_A hAA (by decide)) hPt (cTx.recv hK.1 hPt)) rfl rfl hl.1 rfl (lv_room (Nat.le_of_ble_eq_true rfl)) dX6_endings_52 ⟨Nat.le_of_ble_eq_true rfl, Nat.le_of_ble_eq_true rfl⟩) hS (cRg_A hAA (by decide)) (fun H locs hP1 hK1 hS => ?_)
                          have hPt : va_P D vwCl (tw cC (cAd AD 160) (va_up (va_up (va_up (va_up (va_up (va_up (va_up (va_up F9 (0) ((97 + G (gEndAt ak 0 0)))) (1) ((97 + G (gEndAt ak 1 0)))) (2) ((97 + G (gEndAt ak 2 0)))) (3) ((97 + G (gEndAt ak 3 0)))) (4) (47)) (5) ((97 + G (gEndAt ak 0 1)))) (6) ((97 + G (gEndAt ak 1 1)))) (7) ((97 + G (gEndAt ak 2 1)))) (8)) H := hP1
                          have hPo := cOn_Ob.keep hI hK1 hPo (Or.inl (by decide)) (by decide) (by decide)
                          have hPh := (cOn_P (cAt_hw 1)).keep hI hK1 hPh (Or.inl (by decide)) (by decide) (by decide)
                          have hPs := cOn_Sv.keep hI hK1 hPs (Or.inl (by decide)) (by decide) (by decide)
                          have hPp := cOn_Pa.keep hI hK1 hPp (Or.inl (by decide)) (by decide) (by decide)
                          have hPw := cOn_Wk.keep hI hK1 hPw (Or.inl (by decide)) (by decide) (by decide)
                          have hPi := cOn_In.keep hI hK1 hPi (Or.inr (by decide)) (by decide) (by decide)
                          refine lv_iinc (v := nI (3)) (lv' := [(3, .int (nI 3)), (2, .int (nI 1)), (0, .ref (AD 0)), (1, .int (nI ak))]) hx hb dX6_endings_55 hl (k := 0) rfl (by show nI _ + Int32.ofInt 1 = _; exact nI_add _ 1) (by decide) rfl (fun ls hl => ?_)
                          refine lv_goto (tgt := 33) hx hb dX6_endings_58 (by decide) ?_
                          refine lv_iload_n hx hb dX6_endings_33 rfl (lv_at hl 0 rfl) ?_
                          refine lv_iconst (v := nI 4) hx hb dX6_endings_34 (by decide) ?_
                          refine nv_icmp_ge (tgt := 61) hx hb dX6_endings_35 (by decide) (by omega) (by omega) (fun c14 => ?_) (fun c14 => ?_)
                          · exact absurd c14 (by decide)
                          · refine lv_aload_n hx hb dX6_endings_38 rfl (lv_at hl 2 rfl) ?_
                            refine va_get (D := D) (ci := 8) (v := .ref ((cAd AD 160) 0)) (C := RX6) (T := TX6) (N := 11) hx hb hts in_X6 hown hK.1 hPo 0 rfl rfl 4 (by decide) fl_36 (fun _ h9 => h9) rfl dX6_endings_39 ?_
                            refine lv_aload_n hx hb dX6_endings_42 rfl (lv_at hl 2 rfl) ?_
                            refine va_get (D := D) (ci := 8) (v := .ref ((cAd AD 1) 0)) (C := RX6) (T := TX6) (N := 11) hx hb hts in_X6 hown hK.1 hPo 0 rfl rfl 0 (by decide) fl_10 (fun _ h9 => h9) rfl dX6_endings_43 ?_
                            refine lv_iload_n hx hb dX6_endings_46 rfl (lv_at hl 3 rfl) ?_
                            refine lv_iload_n hx hb dX6_endings_47 rfl (lv_at hl 0 rfl) ?_
                            refine lv_iload_n hx hb dX6_endings_48 rfl (lv_at hl 1 rfl) ?_
                            refine nv_kS (va_runV (As := [.int (nI ak), .int (nI 3), .int (nI 1)]) (rest := [.ref ((cAd AD 160) 0)]) ⟨hx, hb, hml, hown, hts⟩ (c_X1_signAt l hR hG ak 3 1 (by omega) (by omega) (by omega)) (cwV 3 hts gX6_endings_X1_signAt rfl rfl rfl (by decide +kernel) ⟨Nat.le_of_ble_eq_true rfl, Nat.le_of_ble_eq_true rfl⟩) (nt_pV hT hS hPh (va_recv hK.1 hPh (ci := 3) (q0 := 0) rfl rfl)) rfl rfl hl.1 rfl (lv_room (Nat.le_of_ble_eq_true rfl)) dX6_endings_49 ⟨Nat.le_of_ble_eq_true rfl, Nat.le_of_ble_eq_true rfl⟩) ?_
                            refine nv_kGv (va_runV (As := [.int (nI (97 + G (gEndAt ak 3 1)))]) (rest := []) ⟨hx, hb, hml, hown, hts⟩ (c_X4_put (x := cAd AD 160) l (fun _ _ => cD_of (b := 160) (n := 2) hI cAt_2 (by decide)) ((97 + G (gEndAt ak 3 1))) (by first | omega | (split <;> omega)) (by omega)) (cwV 1 hts gX6_endings_X4_put rfl rfl rfl (by decide +kernel) ⟨Nat.le_of_ble_eq_true rfl, Nat.le_of_ble_eq_true rfl⟩) (nt_pVn hT hS (cRg_A hAA (by decide)) hPt (cTx.recv hK.1 hPt)) rfl rfl hl.1 rfl (lv_room (Nat.le_of_ble_eq_true rfl)) dX6_endings_52 ⟨Nat.le_of_ble_eq_true rfl, Nat.le_of_ble_eq_true rfl⟩) hS (cRg_A hAA (by decide)) (fun H locs hP1 hK1 hS => ?_)
                            have hPt : va_P D vwCl (tw cC (cAd AD 160) (va_up (va_up (va_up (va_up (va_up (va_up (va_up (va_up (va_up F9 (0) ((97 + G (gEndAt ak 0 0)))) (1) ((97 + G (gEndAt ak 1 0)))) (2) ((97 + G (gEndAt ak 2 0)))) (3) ((97 + G (gEndAt ak 3 0)))) (4) (47)) (5) ((97 + G (gEndAt ak 0 1)))) (6) ((97 + G (gEndAt ak 1 1)))) (7) ((97 + G (gEndAt ak 2 1)))) (8) ((97 + G (gEndAt ak 3 1)))) (9)) H := hP1
                            have hPo := cOn_Ob.keep hI hK1 hPo (Or.inl (by decide)) (by decide) (by decide)
                            have hPh := (cOn_P (cAt_hw 1)).keep hI hK1 hPh (Or.inl (by decide)) (by decide) (by decide)
                            have hPs := cOn_Sv.keep hI hK1 hPs (Or.inl (by decide)) (by decide) (by decide)
                            have hPp := cOn_Pa.keep hI hK1 hPp (Or.inl (by decide)) (by decide) (by decide)
                            have hPw := cOn_Wk.keep hI hK1 hPw (Or.inl (by decide)) (by decide) (by decide)
                            have hPi := cOn_In.keep hI hK1 hPi (Or.inr (by decide)) (by decide) (by decide)
                            refine lv_iinc (v := nI (4)) (lv' := [(3, .int (nI 4)), (2, .int (nI 1)), (0, .ref (AD 0)), (1, .int (nI ak))]) hx hb dX6_endings_55 hl (k := 0) rfl (by show nI _ + Int32.ofInt 1 = _; exact nI_add _ 1) (by decide) rfl (fun ls hl => ?_)
                            refine lv_goto (tgt := 33) hx hb dX6_endings_58 (by decide) ?_
                            refine lv_iload_n hx hb dX6_endings_33 rfl (lv_at hl 0 rfl) ?_
                            refine lv_iconst (v := nI 4) hx hb dX6_endings_34 (by decide) ?_
                            refine nv_icmp_ge (tgt := 61) hx hb dX6_endings_35 (by decide) (by omega) (by omega) (fun c15 => ?_) (fun c15 => ?_)
                            · refine lv_iinc (v := nI (2)) (lv' := [(2, .int (nI 2)), (3, .int (nI 4)), (0, .ref (AD 0)), (1, .int (nI ak))]) hx hb dX6_endings_61 hl (k := 1) rfl (by show nI _ + Int32.ofInt 1 = _; exact nI_add _ 1) (by decide) rfl (fun ls hl => ?_)
                              refine lv_goto (tgt := 13) hx hb dX6_endings_64 (by decide) ?_
                              refine lv_iload_n hx hb dX6_endings_13 rfl (lv_at hl 0 rfl) ?_
                              refine lv_iconst (v := nI 2) hx hb dX6_endings_14 (by decide) ?_
                              refine nv_icmp_ge (tgt := 67) hx hb dX6_endings_15 (by decide) (by omega) (by omega) (fun c16 => ?_) (fun c16 => ?_)
                              · refine lv_aload_n hx hb dX6_endings_67 rfl (lv_at hl 2 rfl) ?_
                                refine va_get (D := D) (ci := 8) (v := .ref ((cAd AD 160) 0)) (C := RX6) (T := TX6) (N := 11) hx hb hts in_X6 hown hK.1 hPo 0 rfl rfl 4 (by decide) fl_36 (fun _ h9 => h9) rfl dX6_endings_68 ?_
                                have hP := hPt
                                refine va_get (D := D) (ci := 6) (v := .int (nI 9)) (C := RX4) (T := TX4) (N := 2) hx hb hts in_X4 hown hK.1 hP 0 rfl rfl 1 (by decide) fl_309 (fun _ h9 => h9) rfl dX6_endings_71 ?_
                                exact nv_retGX hq hx hb hr hlocks (Nat.le_of_ble_eq_true rfl) (Nat.le_of_ble_eq_true rfl) (nar_i _) (if_pos c1) (by rw [if_pos c1] <;> rfl) hS (by rw [if_pos c1, if_pos c1, et_ak]; exact ⟨hPo, ⟨u, hR, hk, hPh⟩, hPi, hPs, hPp, hPw, tx_of (l := enD G ak) (F0 := F9) (by show 9 ≤ 16; decide) hPt⟩) dX6_endings_74
                              · exact absurd c16 (by decide)
                            · exact absurd c15 (by decide)
              · exact absurd c8 (by decide)
    · exact absurd c3 (by decide)
