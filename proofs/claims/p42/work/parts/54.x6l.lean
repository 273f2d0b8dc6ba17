theorem bs_bit (P : Nat → Prop) [DecidablePred P] : ∀ n k, k < n → P k → (bs P n).testBit k = true
  | 0, k, h, _ => absurd h (Nat.not_lt_zero k)
  | n + 1, k, h, hp => by
    show (bs P n ||| (if P n then 1 <<< n else 0)).testBit k = true
    rw [Nat.testBit_or]
    rcases (show k < n ∨ k = n by omega) with q | q
    · rw [bs_bit P n k q hp]; rfl
    · subst q
      rw [if_pos hp, Nat.one_shiftLeft, Nat.testBit_two_pow_self, Bool.or_true]
theorem bs_and {P : Nat → Prop} [DecidablePred P] {n k : Nat} (h : k < n) (hp : P k) : ¬ bs P n &&& 1 <<< k = 0 := fun q => by
  have h1 := congrArg (fun z => z.testBit k) q
  rw [Nat.testBit_and, bs_bit P n k h hp, Nat.one_shiftLeft, Nat.testBit_two_pow_self] at h1
  exact absurd h1 (by simp)
theorem way_no {g : Nat} (h : (if g < 6 then nI g else -1) = (-1 : Int32)) : ¬ g < 6 := fun q => by
  rw [if_pos q] at h
  have h1 := congrArg Int32.toInt h
  rw [nI_toInt (by omega)] at h1
  have h2 : (-1 : Int32).toInt = -1 := by decide
  omega
theorem way_yes {g : Nat} (h : ¬ (if g < 6 then nI g else -1) = (-1 : Int32)) : g < 6 := by
  by_cases q : g < 6
  · exact q
  · rw [if_neg q] at h; exact absurd rfl h
/-- the walk's cells and the house's -/
def cRw (AD : Nat → Nat) : Nat → Prop := fun q => cRg AD 1 15 q ∨ cRg AD 157 160 q
theorem cD_wk {AD : Nat → Nat} {cI cD : ClassId} {u : hS} (hI : cInj AD) (P : Nat → Int32) (Q : Nat → Nat) : va_D (cRw AD) (wk cI (cAd AD 157) P Q ++ hw cI cD (cAd AD 1) u) := by
  refine va_D.app ((cD_of (b := 157) (n := 3) hI cAt_3 (by decide)).weaken (fun _ _ _ h => Or.inr h)) ((cD_of hI (cAt_hw 1) (by decide)).weaken (fun _ _ _ h => Or.inl h)) (fun i j p q hi hj e => ?_)
  obtain ⟨h1, e1⟩ := cAt_3 (b := 157) i p hi
  obtain ⟨h2, e2⟩ := cAt_hw 1 j q hj
  have := hI (157 + i) (1 + j) (by omega) (by omega) (by rw [← e1, ← e2]; exact e)
  omega
theorem cRw_A {AD : Nat → Nat} {A : Nat → Prop} (hA : ∀ i, i < 165 → A (AD i)) : ∀ q, cRw AD q → A q := fun q h => h.elim (cRg_A hA (by decide) q) (cRg_A hA (by decide) q)
theorem cWk.recv {D : va_G} {AD : Nat → Nat} {H : Heap} {cI : ClassId} {s : State} {tys : List (ClassId × FieldType)} (hK : va_K D vwCl tys s) (h : cWk D cI AD H) : ∃ cell : Cell, H[AD 157]? = some cell ∧ cell.vm.isStatics = false ∧ s.vm.findClass RX5 = some cell.cls := by
  obtain ⟨P, Q, h⟩ := h
  exact va_recv hK h (ci := 7) (q0 := 0) rfl rfl

set_option maxHeartbeats 1000000 in
set_option maxRecDepth 100000 in
theorem c_X6_twins (l : Launch) (hl9 : l.stackTraces = false) {D : va_G} {cI cC cD cR : ClassId} {sa : sA} {A : Nat → Prop} {AD : Nat → Nat} {G Sv Hi In Le : Nat → Nat} {b hs ch ty wy ln : Nat} {ea ra wd : Int32} (hG : gWf b G) (hI : cInj AD) (hAA : ∀ i, i < 165 → A (AD i)) (d : Int32) : vx_Met l yX6_twins wsX6_twins ({ frames := 7, cells := 1, slots := 6, locals := 130 }) (va_Pc [.ref (AD 0), .int d] (tPre D [(cI, .int), (cC, .char), (cD, .object "DoorDialect$Door"), (cR, .object "DoorDialect$House")] nN sa A (cW D cI cC cD cR AD G Sv Hi In Le hs ch ty wy ln ea ra wd))) (gQX (if iR d (G 0) then 0 else 1) ((if iR d (G 0) then nI (gTwins G (tN d)) else 0)) (cW D cI cC cD cR AD G Sv Hi In Le hs ch ty wy ln ea ra wd) A) (xQ ["java/lang/IndexOutOfBoundsException"] (if iR d (G 0) then 0 else 1) (cW D cI cC cD cR AD G Sv Hi In Le hs ch ty wy ln ea ra wd) A) 1 6 A := by
  refine nv_metX (cc := cX6_twins) (maxL := 4) (ret := (some .int)) (by decide) rfl (Nat.le_of_ble_eq_true rfl) ?_
  intro p0 e0 s m0 args below meth c0 Q hq hargs hnA hout hpre ls hl
  obtain ⟨hx, hb, hr, hts, hown, hlocks, hml⟩ := hnA
  obtain ⟨hP, hT⟩ := hpre
  have hK := hT.1
  have hown : s.vm.findClass RX6 = some m0.cls := hown
  obtain ⟨hPo, ⟨u, hR, hk, hPh⟩, hPi, hPs, hPp, hPw, hPt⟩ := hP
  have hPo : va_P D vwCl (cOb AD (hs) (wy) (wd) (ea) (ra)) s.heap := hPo
  have hPh : va_P D vwCl (hw cI cD (cAd AD 1) u) s.heap := hPh
  have hl : lv_has ls 4 [(0, .ref (AD 0)), (1, .int d)] := hl
  have hS : va_S A s.heap s.heap [] := va_S.rf
  have in_X1 : ∀ w ∈ wsX10, w ∈ wsX6_twins := by decide +kernel
  have in_X6 : ∀ w ∈ wsX60, w ∈ wsX6_twins := by decide +kernel
  have fl_10 := hts (.fieldLink RX6 10 "DoorDialect" "house" "LDoorDialect$House;") (by decide +kernel)
  have fl_64 := hts (.fieldLink RX6 64 "DoorDialect$House" "doorCount" "I") (by decide +kernel)
  obtain ⟨g_b, g_k, g_0, g_1, g_2, g_e, g_d, g_t, g_y, g_s, g_h⟩ := id hG
  have zq0 : G 0 = G 0 := rfl
  have l3 := hG.lt (k := 3) (by decide)
  have l4 := hG.lt (k := 4) (by decide)
  have l5 := hG.lt (k := 5) (by decide)
  refine lv_aload_n hx hb dX6_twins_0 rfl (lv_at hl 0 rfl) ?_
  refine lv_iload_n hx hb dX6_twins_1 rfl (lv_at hl 1 rfl) ?_
  refine nv_kGXv (vx_runV (As := [.int d]) (rest := []) ⟨hx, hb, hml, hown, hts⟩ (c_X6_requireDoor l hl9 (A := fun _ => False) (J := cJ D cI cC cD cR AD u Sv Hi In Le hs ch ty wy ln ea ra wd) (fun _ _ h9 h8 => h8.grow h9) (fun _ h9 => h9.1) (fun _ h9 => h9.2.1) hR hG ((d))) (cwV 1 hts gX6_twins_X6_requireDoor rfl rfl rfl (by decide +kernel) ⟨Nat.le_of_ble_eq_true rfl, Nat.le_of_ble_eq_true rfl⟩) (nt_pVn hT hS (fun _ h9 => h9.elim) ⟨hPo, hPh, hPi, hPs, hPp, hPw, hPt⟩ (va_recv hK.1 hPo (ci := 8) (q0 := 0) rfl rfl)) rfl rfl hl.1 rfl (lv_room (Nat.le_of_ble_eq_true rfl)) dX6_twins_2 ⟨Nat.le_of_ble_eq_true rfl, Nat.le_of_ble_eq_true rfl⟩) hS (fun _ h9 => h9.elim) hq hout hlocks (Nat.le_of_ble_eq_true rfl) (Nat.le_of_ble_eq_true rfl) (fun H h0 hP1 hK1 => ?_) (fun H locs h0 hP1 hK1 hS => ?_)
  · have hn : ¬ iR ((d)) (G 0) := fun q => h0 (if_pos q)
    exact ⟨by rw [if_neg hn]; exact Nat.one_ne_zero, by first | rw [if_neg hn, if_neg hn] <;> rfl | rw [if_neg hn] <;> rfl, hP1.W hR hk⟩
  obtain ⟨hPo, hPh, hPi, hPs, hPp, hPw, hPt⟩ := hP1
  have c1 : iR ((d)) (G 0) := if01 h0
  have c1k := c1
  obtain ⟨dk, h_dk, rfl⟩ := iR_of c1k (by omega)
  have et_dk : tN (nI dk) = dk := tN_nI (by omega)
  obtain ⟨w_a, w_g, w_n, w_s, w_w, w_l, w_o, w_x, w_y, w_1, w_2, w_3, w_4⟩ := hG.door (d := dk) (by omega)
  have hcc := gWf_case hG (d := dk) (by omega)
  have hee := gEnd_lt hG (d := dk) (by omega)
  refine lv_iconst (v := nI 0) hx hb dX6_twins_5 (by decide) ?_
  refine lv_istore_n (lv' := [(2, .int (nI 0)), (0, .ref (AD 0)), (1, .int (nI dk))]) hx hb dX6_twins_6 rfl hl (by decide) rfl (fun ls hl => ?_)
  refine lv_iconst (v := nI 0) hx hb dX6_twins_7 (by decide) ?_
  refine lv_istore_n (lv' := [(3, .int (nI 0)), (2, .int (nI 0)), (0, .ref (AD 0)), (1, .int (nI dk))]) hx hb dX6_twins_8 rfl hl (by decide) rfl (fun ls hl => ?_)
  have hloop2 : ∀ (nn : Nat) (k : Nat) (t : Nat), (k ≤ G 0) → (t = bs (fun k => gAlike G dk k) k) → G 0 - k < nn → ∀ (ls : Array Slot), lv_has ls 4 [(3, .int (nI k)), (2, .int (nI t)), (0, .ref (AD 0)), (1, .int (nI dk))] → W p0 l e0 ({ frames := 7, cells := 1, slots := 6, locals := 130 }) s m0 args below meth c0 H locs 1 6 Q (F0 m0 9 ls []) := by
    intro nn9
    induction nn9 with
    | zero => intro k t hk9 ht hn0  _ _; exact absurd hn0 (Nat.not_lt_zero _)
    | succ nn9 ih9 =>
      intro k t hk9 ht hn9  ls hl
      refine lv_iload_n hx hb dX6_twins_9 rfl (lv_at hl 0 rfl) ?_
      refine lv_aload_n hx hb dX6_twins_10 rfl (lv_at hl 2 rfl) ?_
      refine va_get (D := D) (ci := 8) (v := .ref ((cAd AD 1) 0)) (C := RX6) (T := TX6) (N := 11) hx hb hts in_X6 hown hK.1 hPo 0 rfl rfl 0 (by decide) fl_10 (fun _ h9 => h9) rfl dX6_twins_11 ?_
      refine va_get (D := D) (ci := 3) (v := .int (nI (hs_c u 0))) (C := RX1) (T := TX1) (N := 12) hx hb hts in_X1 hown hK.1 hPh 0 rfl rfl 5 (by decide) fl_64 (fun _ h9 => h9) rfl dX6_twins_14 ?_
      refine nv_to (G 0) (congrArg nI ((hR.c0))) ?_
      refine nv_icmp_ge (tgt := 44) hx hb dX6_twins_17 (by decide) (by omega) (by omega) (fun c3 => ?_) (fun c3 => ?_)
      · refine lv_iload_n hx hb dX6_twins_44 rfl (lv_at hl 1 rfl) ?_
        exact nv_retGX hq hx hb hr hlocks (Nat.le_of_ble_eq_true rfl) (Nat.le_of_ble_eq_true rfl) (nar_i _) (if_pos c1) (by rw [if_pos c1, et_dk, ht, show k = G 0 by omega] <;> rfl) hS (⟨hPo, ⟨u, hR, hk, hPh⟩, hPi, hPs, hPp, hPw, hPt⟩) dX6_twins_45
      · refine lv_aload_n hx hb dX6_twins_20 rfl (lv_at hl 2 rfl) ?_
        refine va_get (D := D) (ci := 8) (v := .ref ((cAd AD 1) 0)) (C := RX6) (T := TX6) (N := 11) hx hb hts in_X6 hown hK.1 hPo 0 rfl rfl 0 (by decide) fl_10 (fun _ h9 => h9) rfl dX6_twins_21 ?_
        refine lv_iload_n hx hb dX6_twins_24 rfl (lv_at hl 3 rfl) ?_
        refine lv_iload_n hx hb dX6_twins_25 rfl (lv_at hl 0 rfl) ?_
        refine nv_kS (va_runV (As := [.int (nI dk), .int (nI k)]) (rest := []) ⟨hx, hb, hml, hown, hts⟩ (c_X1_areAlikeByLetters l hR hG dk k (by omega) (by omega)) (cwV 2 hts gX6_twins_X1_areAlikeByLetters rfl rfl rfl (by decide +kernel) ⟨Nat.le_of_ble_eq_true rfl, Nat.le_of_ble_eq_true rfl⟩) (nt_pV hT hS hPh (va_recv hK.1 hPh (ci := 3) (q0 := 0) rfl rfl)) rfl rfl hl.1 rfl (lv_room (Nat.le_of_ble_eq_true rfl)) dX6_twins_26 ⟨Nat.le_of_ble_eq_true rfl, Nat.le_of_ble_eq_true rfl⟩) ?_
        refine nv_ifb_eq (tgt := 38) hx hb dX6_twins_29 (by decide) (fun c4 => ?_) (fun c4 => ?_)
        · refine lv_iinc (v := nI (k + 1)) (lv' := [(3, .int (nI (k + 1))), (2, .int (nI t)), (0, .ref (AD 0)), (1, .int (nI dk))]) hx hb dX6_twins_38 hl (k := 0) rfl (by show nI _ + Int32.ofInt 1 = _; exact nI_add _ 1) (by decide) rfl (fun ls hl => ?_)
          refine lv_goto (tgt := 9) hx hb dX6_twins_41 (by decide) ?_
          exact ih9  (k + 1) t ((by omega)) ((by rw [ht]; show _ = bs (fun k => gAlike G dk k) k ||| (if _ then 1 <<< k else 0); rw [if_neg c4, Nat.or_zero])) (by omega) ls (lv_sub hl [0, 1, 2, 3] rfl)
        · refine lv_iload_n hx hb dX6_twins_32 rfl (lv_at hl 1 rfl) ?_
          refine lv_iconst (v := nI 1) hx hb dX6_twins_33 (by decide) ?_
          refine lv_iload_n hx hb dX6_twins_34 rfl (lv_at hl 0 rfl) ?_
          refine lv_ishl hx hb dX6_twins_35 ?_
          refine nv_to (1 <<< k) (nv_1shl (by omega)) ?_
          refine lv_ior hx hb dX6_twins_36 ?_
          refine nv_to (bs (fun k => gAlike G dk k) (k + 1)) ((by rw [ht]; exact nv_bset (P := (fun k => gAlike G dk k)) c4 (by omega))) ?_
          refine lv_istore_n (lv' := [(2, .int (nI (bs (fun k => gAlike G dk k) (k + 1)))), (3, .int (nI k)), (0, .ref (AD 0)), (1, .int (nI dk))]) hx hb dX6_twins_37 rfl hl (by decide) rfl (fun ls hl => ?_)
          refine lv_iinc (v := nI (k + 1)) (lv' := [(3, .int (nI (k + 1))), (2, .int (nI (bs (fun k => gAlike G dk k) (k + 1)))), (0, .ref (AD 0)), (1, .int (nI dk))]) hx hb dX6_twins_38 hl (k := 1) rfl (by show nI _ + Int32.ofInt 1 = _; exact nI_add _ 1) (by decide) rfl (fun ls hl => ?_)
          refine lv_goto (tgt := 9) hx hb dX6_twins_41 (by decide) ?_
          exact ih9  (k + 1) (bs (fun k => gAlike G dk k) (k + 1)) ((by omega)) (rfl) (by omega) ls (lv_sub hl [0, 1, 2, 3] rfl)
  exact hloop2 _ 0 0 ((Nat.zero_le _)) (rfl) (Nat.lt_succ_self _) ls (lv_sub hl [0, 1, 2, 3] rfl)

set_option maxHeartbeats 1000000 in
set_option maxRecDepth 100000 in
theorem c_X6_keysFor (l : Launch) (hl9 : l.stackTraces = false) {D : va_G} {cI cC cD cR : ClassId} {sa : sA} {A : Nat → Prop} {AD : Nat → Nat} {G Sv Hi In Le : Nat → Nat} {b hs ch ty wy ln : Nat} {ea ra wd : Int32} (hG : gWf b G) (hI : cInj AD) (hAA : ∀ i, i < 165 → A (AD i)) (d : Int32) : vx_Met l yX6_keysFor wsX6_keysFor ({ frames := 7, cells := 1, slots := 6, locals := 103 }) (va_Pc [.ref (AD 0), .int d] (tPre D [(cI, .int), (cC, .char), (cD, .object "DoorDialect$Door"), (cR, .object "DoorDialect$House")] nN sa A (cW D cI cC cD cR AD G Sv Hi In Le hs ch ty wy ln ea ra wd))) (gQX (if iR d (G 0) then 0 else 1) ((if iR d (G 0) then nI (gKeys G (tN d)) else 0)) (cW D cI cC cD cR AD G Sv Hi In Le hs ch ty wy ln ea ra wd) A) (xQ ["java/lang/IndexOutOfBoundsException"] (if iR d (G 0) then 0 else 1) (cW D cI cC cD cR AD G Sv Hi In Le hs ch ty wy ln ea ra wd) A) 1 6 A := by
  refine nv_metX (cc := cX6_keysFor) (maxL := 4) (ret := (some .int)) (by decide) rfl (Nat.le_of_ble_eq_true rfl) ?_
  intro p0 e0 s m0 args below meth c0 Q hq hargs hnA hout hpre ls hl
  obtain ⟨hx, hb, hr, hts, hown, hlocks, hml⟩ := hnA
  obtain ⟨hP, hT⟩ := hpre
  have hK := hT.1
  have hown : s.vm.findClass RX6 = some m0.cls := hown
  obtain ⟨hPo, ⟨u, hR, hk, hPh⟩, hPi, hPs, hPp, hPw, hPt⟩ := hP
  have hPo : va_P D vwCl (cOb AD (hs) (wy) (wd) (ea) (ra)) s.heap := hPo
  have hPh : va_P D vwCl (hw cI cD (cAd AD 1) u) s.heap := hPh
  have hl : lv_has ls 4 [(0, .ref (AD 0)), (1, .int d)] := hl
  have hS : va_S A s.heap s.heap [] := va_S.rf
  have in_X1 : ∀ w ∈ wsX10, w ∈ wsX6_keysFor := by decide +kernel
  have in_X6 : ∀ w ∈ wsX60, w ∈ wsX6_keysFor := by decide +kernel
  have fl_10 := hts (.fieldLink RX6 10 "DoorDialect" "house" "LDoorDialect$House;") (by decide +kernel)
  have fl_247 := hts (.fieldLink RX6 247 "DoorDialect$House" "keyCount" "I") (by decide +kernel)
  obtain ⟨g_b, g_k, g_0, g_1, g_2, g_e, g_d, g_t, g_y, g_s, g_h⟩ := id hG
  have zq0 : G 0 = G 0 := rfl
  have l3 := hG.lt (k := 3) (by decide)
  have l4 := hG.lt (k := 4) (by decide)
  have l5 := hG.lt (k := 5) (by decide)
  refine lv_aload_n hx hb dX6_keysFor_0 rfl (lv_at hl 0 rfl) ?_
  refine lv_iload_n hx hb dX6_keysFor_1 rfl (lv_at hl 1 rfl) ?_
  refine nv_kGXv (vx_runV (As := [.int d]) (rest := []) ⟨hx, hb, hml, hown, hts⟩ (c_X6_requireDoor l hl9 (A := fun _ => False) (J := cJ D cI cC cD cR AD u Sv Hi In Le hs ch ty wy ln ea ra wd) (fun _ _ h9 h8 => h8.grow h9) (fun _ h9 => h9.1) (fun _ h9 => h9.2.1) hR hG ((d))) (cwV 1 hts gX6_keysFor_X6_requireDoor rfl rfl rfl (by decide +kernel) ⟨Nat.le_of_ble_eq_true rfl, Nat.le_of_ble_eq_true rfl⟩) (nt_pVn hT hS (fun _ h9 => h9.elim) ⟨hPo, hPh, hPi, hPs, hPp, hPw, hPt⟩ (va_recv hK.1 hPo (ci := 8) (q0 := 0) rfl rfl)) rfl rfl hl.1 rfl (lv_room (Nat.le_of_ble_eq_true rfl)) dX6_keysFor_2 ⟨Nat.le_of_ble_eq_true rfl, Nat.le_of_ble_eq_true rfl⟩) hS (fun _ h9 => h9.elim) hq hout hlocks (Nat.le_of_ble_eq_true rfl) (Nat.le_of_ble_eq_true rfl) (fun H h0 hP1 hK1 => ?_) (fun H locs h0 hP1 hK1 hS => ?_)
  · have hn : ¬ iR ((d)) (G 0) := fun q => h0 (if_pos q)
    exact ⟨by rw [if_neg hn]; exact Nat.one_ne_zero, by first | rw [if_neg hn, if_neg hn] <;> rfl | rw [if_neg hn] <;> rfl, hP1.W hR hk⟩
  obtain ⟨hPo, hPh, hPi, hPs, hPp, hPw, hPt⟩ := hP1
  have c1 : iR ((d)) (G 0) := if01 h0
  have c1k := c1
  obtain ⟨dk, h_dk, rfl⟩ := iR_of c1k (by omega)
  have et_dk : tN (nI dk) = dk := tN_nI (by omega)
  obtain ⟨w_a, w_g, w_n, w_s, w_w, w_l, w_o, w_x, w_y, w_1, w_2, w_3, w_4⟩ := hG.door (d := dk) (by omega)
  have hcc := gWf_case hG (d := dk) (by omega)
  have hee := gEnd_lt hG (d := dk) (by omega)
  refine lv_iconst (v := nI 0) hx hb dX6_keysFor_5 (by decide) ?_
  refine lv_istore_n (lv' := [(2, .int (nI 0)), (0, .ref (AD 0)), (1, .int (nI dk))]) hx hb dX6_keysFor_6 rfl hl (by decide) rfl (fun ls hl => ?_)
  refine lv_iconst (v := nI 0) hx hb dX6_keysFor_7 (by decide) ?_
  refine lv_istore_n (lv' := [(3, .int (nI 0)), (2, .int (nI 0)), (0, .ref (AD 0)), (1, .int (nI dk))]) hx hb dX6_keysFor_8 rfl hl (by decide) rfl (fun ls hl => ?_)
  have hloop2 : ∀ (nn : Nat) (k : Nat) (t : Nat), (k ≤ G 2) → (t = bs (fun k => gFit G k (G (32 + dk)) (G (40 + dk)) = 2) k) → G 2 - k < nn → ∀ (ls : Array Slot), lv_has ls 4 [(3, .int (nI k)), (2, .int (nI t)), (0, .ref (AD 0)), (1, .int (nI dk))] → W p0 l e0 ({ frames := 7, cells := 1, slots := 6, locals := 103 }) s m0 args below meth c0 H locs 1 6 Q (F0 m0 9 ls []) := by
    intro nn9
    induction nn9 with
    | zero => intro k t hk9 ht hn0  _ _; exact absurd hn0 (Nat.not_lt_zero _)
    | succ nn9 ih9 =>
      intro k t hk9 ht hn9  ls hl
      refine lv_iload_n hx hb dX6_keysFor_9 rfl (lv_at hl 0 rfl) ?_
      refine lv_aload_n hx hb dX6_keysFor_10 rfl (lv_at hl 2 rfl) ?_
      refine va_get (D := D) (ci := 8) (v := .ref ((cAd AD 1) 0)) (C := RX6) (T := TX6) (N := 11) hx hb hts in_X6 hown hK.1 hPo 0 rfl rfl 0 (by decide) fl_10 (fun _ h9 => h9) rfl dX6_keysFor_11 ?_
      refine va_get (D := D) (ci := 3) (v := .int (nI (hs_c u 2))) (C := RX1) (T := TX1) (N := 12) hx hb hts in_X1 hown hK.1 hPh 0 rfl rfl 7 (by decide) fl_247 (fun _ h9 => h9) rfl dX6_keysFor_14 ?_
      refine nv_to (G 2) (congrArg nI ((hR.c2))) ?_
      refine nv_icmp_ge (tgt := 45) hx hb dX6_keysFor_17 (by decide) (by omega) (by omega) (fun c3 => ?_) (fun c3 => ?_)
      · refine lv_iload_n hx hb dX6_keysFor_45 rfl (lv_at hl 1 rfl) ?_
        exact nv_retGX hq hx hb hr hlocks (Nat.le_of_ble_eq_true rfl) (Nat.le_of_ble_eq_true rfl) (nar_i _) (if_pos c1) (by rw [if_pos c1, et_dk, ht, show k = G 2 by omega] <;> rfl) hS (⟨hPo, ⟨u, hR, hk, hPh⟩, hPi, hPs, hPp, hPw, hPt⟩) dX6_keysFor_46
      · refine lv_aload_n hx hb dX6_keysFor_20 rfl (lv_at hl 2 rfl) ?_
        refine va_get (D := D) (ci := 8) (v := .ref ((cAd AD 1) 0)) (C := RX6) (T := TX6) (N := 11) hx hb hts in_X6 hown hK.1 hPo 0 rfl rfl 0 (by decide) fl_10 (fun _ h9 => h9) rfl dX6_keysFor_21 ?_
        refine lv_iload_n hx hb dX6_keysFor_24 rfl (lv_at hl 0 rfl) ?_
        refine lv_iload_n hx hb dX6_keysFor_25 rfl (lv_at hl 3 rfl) ?_
        refine nv_kS (va_runV (As := [.int (nI k), .int (nI dk)]) (rest := []) ⟨hx, hb, hml, hown, hts⟩ (c_X1_fit l hR hG k dk (by omega) (by omega)) (cwV 2 hts gX6_keysFor_X1_fit rfl rfl rfl (by decide +kernel) ⟨Nat.le_of_ble_eq_true rfl, Nat.le_of_ble_eq_true rfl⟩) (nt_pV hT hS hPh (va_recv hK.1 hPh (ci := 3) (q0 := 0) rfl rfl)) rfl rfl hl.1 rfl (lv_room (Nat.le_of_ble_eq_true rfl)) dX6_keysFor_26 ⟨Nat.le_of_ble_eq_true rfl, Nat.le_of_ble_eq_true rfl⟩) ?_
        refine lv_iconst (v := nI 2) hx hb dX6_keysFor_29 (by decide) ?_
        refine nv_icmp_ne (tgt := 39) hx hb dX6_keysFor_30 (by decide) (by first | decide | exact gFit_lt _ _ _ _) (by first | decide | exact gFit_lt _ _ _ _) (fun c4 => ?_) (fun c4 => ?_)
        · refine lv_iinc (v := nI (k + 1)) (lv' := [(3, .int (nI (k + 1))), (2, .int (nI t)), (0, .ref (AD 0)), (1, .int (nI dk))]) hx hb dX6_keysFor_39 hl (k := 0) rfl (by show nI _ + Int32.ofInt 1 = _; exact nI_add _ 1) (by decide) rfl (fun ls hl => ?_)
          refine lv_goto (tgt := 9) hx hb dX6_keysFor_42 (by decide) ?_
          exact ih9  (k + 1) t ((by omega)) ((by rw [ht]; show _ = bs (fun k => gFit G k (G (32 + dk)) (G (40 + dk)) = 2) k ||| (if _ then 1 <<< k else 0); rw [if_neg c4, Nat.or_zero])) (by omega) ls (lv_sub hl [0, 1, 2, 3] rfl)
        · refine lv_iload_n hx hb dX6_keysFor_33 rfl (lv_at hl 1 rfl) ?_
          refine lv_iconst (v := nI 1) hx hb dX6_keysFor_34 (by decide) ?_
          refine lv_iload_n hx hb dX6_keysFor_35 rfl (lv_at hl 0 rfl) ?_
          refine lv_ishl hx hb dX6_keysFor_36 ?_
          refine nv_to (1 <<< k) (nv_1shl (by omega)) ?_
          refine lv_ior hx hb dX6_keysFor_37 ?_
          refine nv_to (bs (fun k => gFit G k (G (32 + dk)) (G (40 + dk)) = 2) (k + 1)) ((by rw [ht]; exact nv_bset (P := (fun k => gFit G k (G (32 + dk)) (G (40 + dk)) = 2)) c4 (by omega))) ?_
          refine lv_istore_n (lv' := [(2, .int (nI (bs (fun k => gFit G k (G (32 + dk)) (G (40 + dk)) = 2) (k + 1)))), (3, .int (nI k)), (0, .ref (AD 0)), (1, .int (nI dk))]) hx hb dX6_keysFor_38 rfl hl (by decide) rfl (fun ls hl => ?_)
          refine lv_iinc (v := nI (k + 1)) (lv' := [(3, .int (nI (k + 1))), (2, .int (nI (bs (fun k => gFit G k (G (32 + dk)) (G (40 + dk)) = 2) (k + 1)))), (0, .ref (AD 0)), (1, .int (nI dk))]) hx hb dX6_keysFor_39 hl (k := 1) rfl (by show nI _ + Int32.ofInt 1 = _; exact nI_add _ 1) (by decide) rfl (fun ls hl => ?_)
          refine lv_goto (tgt := 9) hx hb dX6_keysFor_42 (by decide) ?_
          exact ih9  (k + 1) (bs (fun k => gFit G k (G (32 + dk)) (G (40 + dk)) = 2) (k + 1)) ((by omega)) (rfl) (by omega) ls (lv_sub hl [0, 1, 2, 3] rfl)
  exact hloop2 _ 0 0 ((Nat.zero_le _)) (rfl) (Nat.lt_succ_self _) ls (lv_sub hl [0, 1, 2, 3] rfl)

set_option maxHeartbeats 1000000 in
set_option maxRecDepth 100000 in
theorem c_X6_ranked (l : Launch) (hl9 : l.stackTraces = false) {D : va_G} {cI cC cD cR : ClassId} {sa : sA} {A : Nat → Prop} {AD : Nat → Nat} {G Sv Hi In Le : Nat → Nat} {b hs ch ty wy ln : Nat} {ea ra wd : Int32} (hG : gWf b G) (hI : cInj AD) (hAA : ∀ i, i < 165 → A (AD i)) (m x : Int32) : vx_Met l yX6_ranked wsX6_ranked ({ frames := 6, cells := 1, slots := 6, locals := 82 }) (va_Pc [.ref (AD 0), .int m, .int x] (tPre D [(cI, .int), (cC, .char), (cD, .object "DoorDialect$Door"), (cR, .object "DoorDialect$House")] nN sa A (cW D cI cC cD cR AD G Sv Hi In Le hs ch ty wy ln ea ra wd))) (gQX (if iR m 2 then (if gRk G (if tN m = 0 then 104 else 64) x < G 0 then 0 else 2) else 1) ((if iR m 2 then (if gRk G (if tN m = 0 then 104 else 64) x < G 0 then nI (gRk G (if tN m = 0 then 104 else 64) x) else 0) else 0)) (cW D cI cC cD cR AD G Sv Hi In Le hs ch ty wy ln ea ra wd) A) (xQ ["java/lang/IllegalArgumentException", "java/util/NoSuchElementException"] (if iR m 2 then (if gRk G (if tN m = 0 then 104 else 64) x < G 0 then 0 else 2) else 1) (cW D cI cC cD cR AD G Sv Hi In Le hs ch ty wy ln ea ra wd) A) 1 6 A := by
  refine nv_metX (cc := cX6_ranked) (maxL := 4) (ret := (some .int)) (by decide) rfl (Nat.le_of_ble_eq_true rfl) ?_
  intro p0 e0 s m0 args below meth c0 Q hq hargs hnA hout hpre ls hl
  obtain ⟨hx, hb, hr, hts, hown, hlocks, hml⟩ := hnA
  obtain ⟨hP, hT⟩ := hpre
  have hK := hT.1
  have hown : s.vm.findClass RX6 = some m0.cls := hown
  obtain ⟨hPo, ⟨u, hR, hk, hPh⟩, hPi, hPs, hPp, hPw, hPt⟩ := hP
  have hPo : va_P D vwCl (cOb AD (hs) (wy) (wd) (ea) (ra)) s.heap := hPo
  have hPh : va_P D vwCl (hw cI cD (cAd AD 1) u) s.heap := hPh
  have hl : lv_has ls 4 [(0, .ref (AD 0)), (1, .int m), (2, .int x)] := hl
  have hS : va_S A s.heap s.heap [] := va_S.rf
  have in_X1 : ∀ w ∈ wsX10, w ∈ wsX6_ranked := by decide +kernel
  have in_X6 : ∀ w ∈ wsX60, w ∈ wsX6_ranked := by decide +kernel
  have fl_10 := hts (.fieldLink RX6 10 "DoorDialect" "house" "LDoorDialect$House;") (by decide +kernel)
  have fl_64 := hts (.fieldLink RX6 64 "DoorDialect$House" "doorCount" "I") (by decide +kernel)
  obtain ⟨g_b, g_k, g_0, g_1, g_2, g_e, g_d, g_t, g_y, g_s, g_h⟩ := id hG
  have zq0 : G 0 = G 0 := rfl
  have l3 := hG.lt (k := 3) (by decide)
  have l4 := hG.lt (k := 4) (by decide)
  have l5 := hG.lt (k := 5) (by decide)
  refine lv_iload_n hx hb dX6_ranked_0 rfl (lv_at hl 1 rfl) ?_
  refine lv_iconst (v := nI 2) hx hb dX6_ranked_1 (by decide) ?_
  refine nv_kS (va_runS (As := [.int m, .int (nI 2)]) (rest := []) ⟨hx, hb, hml, hown, hts⟩ (c_X6_isBelow l (m) 2 (by omega)) (va_cwS 2 hts gX6_ranked_X6_isBelow rfl rfl rfl (by decide +kernel) ⟨Nat.le_of_ble_eq_true rfl, Nat.le_of_ble_eq_true rfl⟩) (nt_pS hT hS trivial) rfl rfl hl.1 rfl (lv_room (Nat.le_of_ble_eq_true rfl)) dX6_ranked_2 ⟨Nat.le_of_ble_eq_true rfl, Nat.le_of_ble_eq_true rfl⟩) ?_
  refine nv_ifb_ne (tgt := 19) hx hb dX6_ranked_5 (by decide) (fun c1 => ?_) (fun c1 => ?_)
  · have c1k := c1
    obtain ⟨mk, h_mk, rfl⟩ := iR_of c1k (by decide)
    have et_mk : tN (nI mk) = mk := tN_nI (by omega)
    refine lv_iconst (v := nI 0) hx hb dX6_ranked_19 (by decide) ?_
    refine lv_istore_n (lv' := [(3, .int (nI 0)), (0, .ref (AD 0)), (1, .int (nI mk)), (2, .int x)]) hx hb dX6_ranked_20 rfl hl (by decide) rfl (fun ls hl => ?_)
    have hloop2 : ∀ (nn : Nat) (d : Nat), (d ≤ G 0) → (∀ j, j < d → ¬ nI (gRank G (if mk = 0 then 104 else 64) j) = x) → G 0 - d < nn → ∀ (ls : Array Slot), lv_has ls 4 [(3, .int (nI d)), (0, .ref (AD 0)), (1, .int (nI mk)), (2, .int x)] → W p0 l e0 ({ frames := 6, cells := 1, slots := 6, locals := 82 }) s m0 args below meth c0 s.heap [] 0 0 Q (F0 m0 21 ls []) := by
      intro nn21
      induction nn21 with
      | zero => intro d hd hn hn0  _ _; exact absurd hn0 (Nat.not_lt_zero _)
      | succ nn21 ih21 =>
        intro d hd hn hn21  ls hl
        refine lv_iload_n hx hb dX6_ranked_21 rfl (lv_at hl 0 rfl) ?_
        refine lv_aload_n hx hb dX6_ranked_22 rfl (lv_at hl 1 rfl) ?_
        refine va_get (D := D) (ci := 8) (v := .ref ((cAd AD 1) 0)) (C := RX6) (T := TX6) (N := 11) hx hb hts in_X6 hown hK.1 hPo 0 rfl rfl 0 (by decide) fl_10 (fun _ h9 => h9) rfl dX6_ranked_23 ?_
        refine va_get (D := D) (ci := 3) (v := .int (nI (hs_c u 0))) (C := RX1) (T := TX1) (N := 12) hx hb hts in_X1 hown hK.1 hPh 0 rfl rfl 5 (by decide) fl_64 (fun _ h9 => h9) rfl dX6_ranked_26 ?_
        refine nv_to (G 0) (congrArg nI ((hR.c0))) ?_
        refine nv_icmp_ge (tgt := 53) hx hb dX6_ranked_29 (by decide) (by omega) (by omega) (fun c3 => ?_) (fun c3 => ?_)
        · exact nv_throwW (ws := wsX6_ranked) (ik := 263) (is := 283) (ic := 267) (cls := "java/util/NoSuchElementException") (text := "there is no such place") (names := ["java/lang/RuntimeException", "java/lang/Exception"]) hq hx hb hl9 hown hts hT xNSEE_fit ⟨by decide +kernel, by decide +kernel⟩ ⟨by decide +kernel, by decide +kernel⟩ (fun w hw => List.mem_cons_of_mem _ (List.mem_append_right _ hw)) xNSEE_bad xNSEE_ok hS (hl.1.trans hml.symm) dX6_ranked_53 dX6_ranked_56 dX6_ranked_57 dX6_ranked_60 dX6_ranked_63 hout (by decide) (Nat.le_of_ble_eq_true rfl) (Nat.le_of_ble_eq_true rfl) (Nat.le_of_ble_eq_true rfl) hlocks (Nat.le_of_ble_eq_true rfl) (Nat.le_of_ble_eq_true rfl) (by rw [if_pos c1, et_mk, show gRk G (if mk = 0 then 104 else 64) x = G 0 from fd_none (fun j hj => hn j (by omega)), if_neg (Nat.lt_irrefl _)]; exact Nat.succ_ne_zero _) (by rw [if_pos c1, et_mk, show gRk G (if mk = 0 then 104 else 64) x = G 0 from fd_none (fun j hj => hn j (by omega)), if_neg (Nat.lt_irrefl _)] <;> rfl) (fun H1 h9 => (cJ.grow (show cJ D cI cC cD cR AD u Sv Hi In Le hs ch ty wy ln ea ra wd _ from ⟨hPo, hPh, hPi, hPs, hPp, hPw, hPt⟩) h9).W hR hk)
        · refine lv_aload_n hx hb dX6_ranked_32 rfl (lv_at hl 1 rfl) ?_
          refine va_get (D := D) (ci := 8) (v := .ref ((cAd AD 1) 0)) (C := RX6) (T := TX6) (N := 11) hx hb hts in_X6 hown hK.1 hPo 0 rfl rfl 0 (by decide) fl_10 (fun _ h9 => h9) rfl dX6_ranked_33 ?_
          refine lv_iload_n hx hb dX6_ranked_36 rfl (lv_at hl 0 rfl) ?_
          refine lv_iload_n hx hb dX6_ranked_37 rfl (lv_at hl 2 rfl) ?_
          refine nv_kS (va_runV (As := [.int (nI d), .int (nI mk)]) (rest := []) ⟨hx, hb, hml, hown, hts⟩ (c_X1_doorsAhead l hR hG d mk (by omega) (by omega)) (cwV 2 hts gX6_ranked_X1_doorsAhead rfl rfl rfl (by decide +kernel) ⟨Nat.le_of_ble_eq_true rfl, Nat.le_of_ble_eq_true rfl⟩) (nt_pV hT hS hPh (va_recv hK.1 hPh (ci := 3) (q0 := 0) rfl rfl)) rfl rfl hl.1 rfl (lv_room (Nat.le_of_ble_eq_true rfl)) dX6_ranked_38 ⟨Nat.le_of_ble_eq_true rfl, Nat.le_of_ble_eq_true rfl⟩) ?_
          refine lv_iload_n hx hb dX6_ranked_41 rfl (lv_at hl 3 rfl) ?_
          refine lv_icmp_ne (tgt := 47) hx hb dX6_ranked_42 (by decide) (fun c4 => ?_) (fun c4 => ?_)
          · refine lv_iinc (v := nI (d + 1)) (lv' := [(3, .int (nI (d + 1))), (0, .ref (AD 0)), (1, .int (nI mk)), (2, .int x)]) hx hb dX6_ranked_47 hl (k := 0) rfl (by show nI _ + Int32.ofInt 1 = _; exact nI_add _ 1) (by decide) rfl (fun ls hl => ?_)
            refine lv_goto (tgt := 21) hx hb dX6_ranked_50 (by decide) ?_
            exact ih21  (d + 1) ((by omega)) ((fun j hj => by rcases (show j < d ∨ j = d by omega) with h | h; exact hn j h; subst h; exact c4)) (by omega) ls (lv_sub hl [0, 1, 2, 3] rfl)
          · have hit9 := c4
            refine lv_iload_n hx hb dX6_ranked_45 rfl (lv_at hl 0 rfl) ?_
            exact nv_retGX hq hx hb hr hlocks (Nat.le_of_ble_eq_true rfl) (Nat.le_of_ble_eq_true rfl) (nar_i _) (by rw [if_pos c1, et_mk, show gRk G (if mk = 0 then 104 else 64) x = d from fd_some hn hit9 (by omega), if_pos (by omega)]) (by rw [if_pos c1, et_mk, show gRk G (if mk = 0 then 104 else 64) x = d from fd_some hn hit9 (by omega), if_pos (by omega)]) hS (⟨hPo, ⟨u, hR, hk, hPh⟩, hPi, hPs, hPp, hPw, hPt⟩) dX6_ranked_46
    exact hloop2 _ 0 ((Nat.zero_le _)) ((fun j hj => absurd hj (Nat.not_lt_zero j))) (Nat.lt_succ_self _) ls (lv_sub hl [0, 1, 2, 3] rfl)
  · exact nv_throwW (ws := wsX6_ranked) (ik := 168) (is := 278) (ic := 172) (cls := "java/lang/IllegalArgumentException") (text := "there is no such measure") (names := ["java/lang/RuntimeException", "java/lang/Exception"]) hq hx hb hl9 hown hts hT xIAE_fit ⟨by decide +kernel, by decide +kernel⟩ ⟨by decide +kernel, by decide +kernel⟩ (fun w hw => List.mem_cons_of_mem _ (List.mem_append_left _ (List.mem_append_right _ hw))) xIAE_bad xIAE_ok hS (hl.1.trans hml.symm) dX6_ranked_8 dX6_ranked_11 dX6_ranked_12 dX6_ranked_15 dX6_ranked_18 hout (by decide) (Nat.le_of_ble_eq_true rfl) (Nat.le_of_ble_eq_true rfl) (Nat.le_of_ble_eq_true rfl) hlocks (Nat.le_of_ble_eq_true rfl) (Nat.le_of_ble_eq_true rfl) (by rw [if_neg c1]; exact Nat.succ_ne_zero _) (by rw [if_neg c1] <;> rfl) (fun H1 h9 => (cJ.grow (show cJ D cI cC cD cR AD u Sv Hi In Le hs ch ty wy ln ea ra wd _ from ⟨hPo, hPh, hPi, hPs, hPp, hPw, hPt⟩) h9).W hR hk)

set_option maxHeartbeats 1000000 in
set_option maxRecDepth 100000 in
theorem c_X6_reached (l : Launch) (hl9 : l.stackTraces = false) {D : va_G} {cI cC cD cR : ClassId} {sa : sA} {A : Nat → Prop} {AD : Nat → Nat} {G Sv Hi In Le : Nat → Nat} {b hs ch ty wy ln : Nat} {ea ra wd : Int32} (hG : gWf b G) (hI : cInj AD) (hAA : ∀ i, i < 165 → A (AD i)) (r : Int32) : vx_Met l yX6_reached wsX6_reached ({ frames := 7, cells := 1, slots := 6, locals := 102 }) (va_Pc [.ref (AD 0), .int r] (tPre D [(cI, .int), (cC, .char), (cD, .object "DoorDialect$Door"), (cR, .object "DoorDialect$House")] nN sa A (cW D cI cC cD cR AD G Sv Hi In Le hs ch ty wy ln ea ra wd))) (gQX (if iR r 6 then 0 else 1) ((if iR r 6 then nI (gRw G (tN r) (-1)) else 0)) (cW D cI cC cD cR AD G Sv Hi In Le hs ch ty wy ln ea ra wd) A) (xQ ["java/lang/IndexOutOfBoundsException"] (if iR r 6 then 0 else 1) (cW D cI cC cD cR AD G Sv Hi In Le hs ch ty wy ln ea ra wd) A) 1 6 A := by
  refine nv_metX (cc := cX6_reached) (maxL := 2) (ret := (some .int)) (by decide) rfl (Nat.le_of_ble_eq_true rfl) ?_
  intro p0 e0 s m0 args below meth c0 Q hq hargs hnA hout hpre ls hl
  obtain ⟨hx, hb, hr, hts, hown, hlocks, hml⟩ := hnA
  obtain ⟨hP, hT⟩ := hpre
  have hK := hT.1
  have hown : s.vm.findClass RX6 = some m0.cls := hown
  obtain ⟨hPo, ⟨u, hR, hk, hPh⟩, hPi, hPs, hPp, hPw, hPt⟩ := hP
  have hPo : va_P D vwCl (cOb AD (hs) (wy) (wd) (ea) (ra)) s.heap := hPo
  have hPh : va_P D vwCl (hw cI cD (cAd AD 1) u) s.heap := hPh
  have hl : lv_has ls 2 [(0, .ref (AD 0)), (1, .int r)] := hl
  have hS : va_S A s.heap s.heap [] := va_S.rf
  have in_X6 : ∀ w ∈ wsX60, w ∈ wsX6_reached := by decide +kernel
  have fl_10 := hts (.fieldLink RX6 10 "DoorDialect" "house" "LDoorDialect$House;") (by decide +kernel)
  have fl_29 := hts (.fieldLink RX6 29 "DoorDialect" "walk" "LDoorDialect$Walk;") (by decide +kernel)
  obtain ⟨g_b, g_k, g_0, g_1, g_2, g_e, g_d, g_t, g_y, g_s, g_h⟩ := id hG
  have zq0 : G 0 = G 0 := rfl
  have l3 := hG.lt (k := 3) (by decide)
  have l4 := hG.lt (k := 4) (by decide)
  have l5 := hG.lt (k := 5) (by decide)
  refine lv_iload_n hx hb dX6_reached_0 rfl (lv_at hl 1 rfl) ?_
  refine nv_kGXv (vx_runS (As := [.int r]) (rest := []) ⟨hx, hb, hml, hown, hts⟩ (c_X6_requireRoom l hl9 (A := fun _ => False) (J := cJ D cI cC cD cR AD u Sv Hi In Le hs ch ty wy ln ea ra wd) (fun _ _ h9 h8 => h8.grow h9) ((r))) (va_cwS 1 hts gX6_reached_X6_requireRoom rfl rfl rfl (by decide +kernel) ⟨Nat.le_of_ble_eq_true rfl, Nat.le_of_ble_eq_true rfl⟩) (nt_pSn hT hS (fun _ h9 => h9.elim) ⟨hPo, hPh, hPi, hPs, hPp, hPw, hPt⟩) rfl rfl hl.1 rfl (lv_room (Nat.le_of_ble_eq_true rfl)) dX6_reached_1 ⟨Nat.le_of_ble_eq_true rfl, Nat.le_of_ble_eq_true rfl⟩) hS (fun _ h9 => h9.elim) hq hout hlocks (Nat.le_of_ble_eq_true rfl) (Nat.le_of_ble_eq_true rfl) (fun H h0 hP1 hK1 => ?_) (fun H locs h0 hP1 hK1 hS => ?_)
  · have hn : ¬ iR ((r)) 6 := fun q => h0 (if_pos q)
    exact ⟨by rw [if_neg hn]; exact Nat.one_ne_zero, by first | rw [if_neg hn, if_neg hn] <;> rfl | rw [if_neg hn] <;> rfl, hP1.W hR hk⟩
  obtain ⟨hPo, hPh, hPi, hPs, hPp, hPw, hPt⟩ := hP1
  have c1 : iR ((r)) 6 := if01 h0
  have c1k := c1
  obtain ⟨rk, h_rk, rfl⟩ := iR_of c1k (by decide)
  have et_rk : tN (nI rk) = rk := tN_nI (by omega)
  refine lv_aload_n hx hb dX6_reached_4 rfl (lv_at hl 0 rfl) ?_
  refine va_get (D := D) (ci := 8) (v := .ref ((cAd AD 157) 0)) (C := RX6) (T := TX6) (N := 11) hx hb hts in_X6 hown hK.1 hPo 0 rfl rfl 3 (by decide) fl_29 (fun _ h9 => h9) rfl dX6_reached_5 ?_
  refine lv_aload_n hx hb dX6_reached_8 rfl (lv_at hl 0 rfl) ?_
  refine va_get (D := D) (ci := 8) (v := .ref ((cAd AD 1) 0)) (C := RX6) (T := TX6) (N := 11) hx hb hts in_X6 hown hK.1 hPo 0 rfl rfl 0 (by decide) fl_10 (fun _ h9 => h9) rfl dX6_reached_9 ?_
  refine lv_iload_n hx hb dX6_reached_12 rfl (lv_at hl 1 rfl) ?_
  refine lv_iconst (v := (-1)) hx hb dX6_reached_13 (by decide) ?_
  refine nv_kS (va_runV (As := [.ref ((cAd AD 1) 0), .int (nI rk), .int ((-1))]) (rest := []) ⟨hx, hb, hml, hown, hts⟩ (c_X5_roomsFrom l hR hG (AD 157) rk (((-1))) (by omega)) (cwV 3 hts gX6_reached_X5_roomsFrom rfl rfl rfl (by decide +kernel) ⟨Nat.le_of_ble_eq_true rfl, Nat.le_of_ble_eq_true rfl⟩) (nt_pV hT hS hPh (cWk.recv hK.1 hPw)) rfl rfl hl.1 rfl (lv_room (Nat.le_of_ble_eq_true rfl)) dX6_reached_14 ⟨Nat.le_of_ble_eq_true rfl, Nat.le_of_ble_eq_true rfl⟩) ?_
  exact nv_retGX hq hx hb hr hlocks (Nat.le_of_ble_eq_true rfl) (Nat.le_of_ble_eq_true rfl) (nar_i _) (if_pos c1) (by rw [if_pos c1, et_rk]) hS (⟨hPo, ⟨u, hR, hk, hPh⟩, hPi, hPs, hPp, hPw, hPt⟩) dX6_reached_17

set_option maxHeartbeats 1000000 in
set_option maxRecDepth 100000 in
theorem c_X6_way (l : Launch) (hl9 : l.stackTraces = false) {D : va_G} {cI cC cD cR : ClassId} {sa : sA} {A : Nat → Prop} {AD : Nat → Nat} {G Sv Hi In Le : Nat → Nat} {bb hs ch ty wy ln : Nat} {ea ra wd : Int32} (hG : gWf bb G) (hI : cInj AD) (hAA : ∀ i, i < 165 → A (AD i)) (a b : Int32) (z : Nat) (hz : z ≤ 1) : vx_Met l yX6_way wsX6_way ({ frames := 7, cells := 3, slots := 18, locals := 102 }) (va_Pc [.ref (AD 0), .int a, .int b, .int (nI z)] (tPre D [(cI, .int), (cC, .char), (cD, .object "DoorDialect$Door"), (cR, .object "DoorDialect$House")] nN sa A (cW D cI cC cD cR AD G Sv Hi In Le hs ch ty wy ln ea ra wd))) (gQX (if iR a 6 ∧ iR b 6 then (if gWay G (tN a) (tN b) < 6 then 0 else 2) else 1) ((if iR a 6 ∧ iR b 6 then (if gWay G (tN a) (tN b) < 6 then nI (gWay G (tN a) (tN b)) else 0) else 0)) (cW D cI cC cD cR AD G Sv Hi In Le hs ch ty wy ln ea ra wd) A) (xQ ["java/lang/IndexOutOfBoundsException", "java/util/NoSuchElementException"] (if iR a 6 ∧ iR b 6 then (if gWay G (tN a) (tN b) < 6 then 0 else 2) else 1) (cW D cI cC cD cR AD G Sv Hi In Le hs ch ty wy ln ea ra wd) A) 3 18 A := by
  refine nv_metX (cc := cX6_way) (maxL := 5) (ret := (some .int)) (by decide) rfl (Nat.le_of_ble_eq_true rfl) ?_
  intro p0 e0 s m0 args below meth c0 Q hq hargs hnA hout hpre ls hl
  obtain ⟨hx, hb, hr, hts, hown, hlocks, hml⟩ := hnA
  obtain ⟨hP, hT⟩ := hpre
  have hK := hT.1
  have hown : s.vm.findClass RX6 = some m0.cls := hown
  obtain ⟨hPo, ⟨u, hR, hk, hPh⟩, hPi, hPs, hPp, hPw, hPt⟩ := hP
  have hPo : va_P D vwCl (cOb AD (hs) (wy) (wd) (ea) (ra)) s.heap := hPo
  have hPh : va_P D vwCl (hw cI cD (cAd AD 1) u) s.heap := hPh
  have hl : lv_has ls 5 [(0, .ref (AD 0)), (1, .int a), (2, .int b), (3, .int (nI z))] := hl
  have hS : va_S A s.heap s.heap [] := va_S.rf
  have in_X6 : ∀ w ∈ wsX60, w ∈ wsX6_way := by decide +kernel
  have fl_10 := hts (.fieldLink RX6 10 "DoorDialect" "house" "LDoorDialect$House;") (by decide +kernel)
  have fl_29 := hts (.fieldLink RX6 29 "DoorDialect" "walk" "LDoorDialect$Walk;") (by decide +kernel)
  obtain ⟨g_b, g_k, g_0, g_1, g_2, g_e, g_d, g_t, g_y, g_s, g_h⟩ := id hG
  have zq0 : G 0 = G 0 := rfl
  have l3 := hG.lt (k := 3) (by decide)
  have l4 := hG.lt (k := 4) (by decide)
  have l5 := hG.lt (k := 5) (by decide)
  refine lv_iload_n hx hb dX6_way_0 rfl (lv_at hl 1 rfl) ?_
  refine nv_kGXv (vx_runS (As := [.int a]) (rest := []) ⟨hx, hb, hml, hown, hts⟩ (c_X6_requireRoom l hl9 (A := fun _ => False) (J := cJ D cI cC cD cR AD u Sv Hi In Le hs ch ty wy ln ea ra wd) (fun _ _ h9 h8 => h8.grow h9) ((a))) (va_cwS 1 hts gX6_way_X6_requireRoom rfl rfl rfl (by decide +kernel) ⟨Nat.le_of_ble_eq_true rfl, Nat.le_of_ble_eq_true rfl⟩) (nt_pSn hT hS (fun _ h9 => h9.elim) ⟨hPo, hPh, hPi, hPs, hPp, hPw, hPt⟩) rfl rfl hl.1 rfl (lv_room (Nat.le_of_ble_eq_true rfl)) dX6_way_1 ⟨Nat.le_of_ble_eq_true rfl, Nat.le_of_ble_eq_true rfl⟩) hS (fun _ h9 => h9.elim) hq hout hlocks (Nat.le_of_ble_eq_true rfl) (Nat.le_of_ble_eq_true rfl) (fun H h0 hP1 hK1 => ?_) (fun H locs h0 hP1 hK1 hS => ?_)
  · have hn : ¬ iR ((a)) 6 := fun q => h0 (if_pos q)
    exact ⟨by rw [if_neg (fun q => hn q.1)]; exact Nat.one_ne_zero, by first | rw [if_neg hn, if_neg (fun q => hn q.1)] <;> rfl | rw [if_neg hn] <;> rfl, hP1.W hR hk⟩
  obtain ⟨hPo, hPh, hPi, hPs, hPp, hPw, hPt⟩ := hP1
  have c1 : iR ((a)) 6 := if01 h0
  have c1k := c1
  obtain ⟨ak, h_ak, rfl⟩ := iR_of c1k (by decide)
  have et_ak : tN (nI ak) = ak := tN_nI (by omega)
  refine lv_iload_n hx hb dX6_way_4 rfl (lv_at hl 2 rfl) ?_
  refine nv_kGXv (vx_runS (As := [.int b]) (rest := []) ⟨hx, hb, hml, hown, hts⟩ (c_X6_requireRoom l hl9 (A := fun _ => False) (J := cJ D cI cC cD cR AD u Sv Hi In Le hs ch ty wy ln ea ra wd) (fun _ _ h9 h8 => h8.grow h9) ((b))) (va_cwS 1 hts gX6_way_X6_requireRoom rfl rfl rfl (by decide +kernel) ⟨Nat.le_of_ble_eq_true rfl, Nat.le_of_ble_eq_true rfl⟩) (nt_pSn hT hS (fun _ h9 => h9.elim) ⟨hPo, hPh, hPi, hPs, hPp, hPw, hPt⟩) rfl rfl hl.1 rfl (lv_room (Nat.le_of_ble_eq_true rfl)) dX6_way_5 ⟨Nat.le_of_ble_eq_true rfl, Nat.le_of_ble_eq_true rfl⟩) hS (fun _ h9 => h9.elim) hq hout hlocks (Nat.le_of_ble_eq_true rfl) (Nat.le_of_ble_eq_true rfl) (fun H h0 hP1 hK1 => ?_) (fun H locs h0 hP1 hK1 hS => ?_)
  · have hn : ¬ iR ((b)) 6 := fun q => h0 (if_pos q)
    exact ⟨by rw [if_neg (fun q => hn q.2)]; exact Nat.one_ne_zero, by first | rw [if_neg hn, if_neg (fun q => hn q.2)] <;> rfl | rw [if_neg hn] <;> rfl, hP1.W hR hk⟩
  obtain ⟨hPo, hPh, hPi, hPs, hPp, hPw, hPt⟩ := hP1
  have c2 : iR ((b)) 6 := if01 h0
  have c2k := c2
  obtain ⟨bk, h_bk, rfl⟩ := iR_of c2k (by decide)
  have et_bk : tN (nI bk) = bk := tN_nI (by omega)
  refine lv_iload_n hx hb dX6_way_8 rfl (lv_at hl 3 rfl) ?_
  refine nv_if_eq (tgt := 28) hx hb dX6_way_9 (by decide) (by omega) (fun c3 => ?_) (fun c3 => ?_)
  · refine lv_aload_n hx hb dX6_way_28 rfl (lv_at hl 0 rfl) ?_
    refine va_get (D := D) (ci := 8) (v := .ref ((cAd AD 157) 0)) (C := RX6) (T := TX6) (N := 11) hx hb hts in_X6 hown hK.1 hPo 0 rfl rfl 3 (by decide) fl_29 (fun _ h9 => h9) rfl dX6_way_29 ?_
    refine lv_aload_n hx hb dX6_way_32 rfl (lv_at hl 0 rfl) ?_
    refine va_get (D := D) (ci := 8) (v := .ref ((cAd AD 1) 0)) (C := RX6) (T := TX6) (N := 11) hx hb hts in_X6 hown hK.1 hPo 0 rfl rfl 0 (by decide) fl_10 (fun _ h9 => h9) rfl dX6_way_33 ?_
    refine lv_iload_n hx hb dX6_way_36 rfl (lv_at hl 1 rfl) ?_
    refine lv_iload_n hx hb dX6_way_37 rfl (lv_at hl 2 rfl) ?_
    obtain ⟨PA, QA, hPwk⟩ := hPw
    refine nv_kG (va_runV (As := [.ref ((cAd AD 1) 0), .int (nI ak), .int (nI bk)]) (rest := []) ⟨hx, hb, hml, hown, hts⟩ (c_X5_passedByRooms l hR hG (cD_wk hI) ak bk (by omega) (by omega)) (cwV 3 hts gX6_way_X5_passedByRooms rfl rfl rfl (by decide +kernel) ⟨Nat.le_of_ble_eq_true rfl, Nat.le_of_ble_eq_true rfl⟩) (nt_pVn hT hS (cRw_A hAA) (va_P.app hPwk hPh) (va_recv hK.1 hPwk (ci := 7) (q0 := 0) rfl rfl)) rfl rfl hl.1 rfl (lv_room (Nat.le_of_ble_eq_true rfl)) dX6_way_38 ⟨Nat.le_of_ble_eq_true rfl, Nat.le_of_ble_eq_true rfl⟩) hS (cRw_A hAA) (fun H locs hP1 hK1 hS => ?_)
    obtain ⟨P1, Q1, hPwh⟩ := hP1
    have hPw : cWk D cI AD H := ⟨P1, Q1, va_P.left hPwh⟩
    have hPh := va_P.right hPwh
    have hPo := cOn_Ob.keepU hI hK1 hPo (by decide)
    have hPs := cOn_Sv.keepU hI hK1 hPs (by decide)
    have hPp := cOn_Pa.keepU hI hK1 hPp (by decide)
    have hPt := cOn_Tx.keepU hI hK1 hPt (by decide)
    have hPi := cOn_In.keepU hI hK1 hPi (by decide)
    refine lv_istore (lv' := [(4, .int ((if gWay G ak bk < 6 then nI (gWay G ak bk) else -1))), (0, .ref (AD 0)), (1, .int (nI ak)), (2, .int (nI bk)), (3, .int (nI z))]) hx hb dX6_way_41 hl (by decide) rfl (fun ls hl => ?_)
    refine lv_iload hx hb dX6_way_43 (lv_at hl 0 rfl) ?_
    refine lv_iconst (v := (-1)) hx hb dX6_way_45 (by decide) ?_
    refine lv_icmp_ne (tgt := 60) hx hb dX6_way_46 (by decide) (fun c4 => ?_) (fun c4 => ?_)
    · refine lv_iload hx hb dX6_way_60 (lv_at hl 0 rfl) ?_
      exact nv_retGX hq hx hb hr hlocks (Nat.le_of_ble_eq_true rfl) (Nat.le_of_ble_eq_true rfl) (nar_i _) (by rw [if_pos ⟨c1, c2⟩, et_ak, et_bk, if_pos (way_yes c4)]) (by rw [if_pos (way_yes c4), if_pos ⟨c1, c2⟩, et_ak, et_bk, if_pos (way_yes c4)]) hS (⟨hPo, ⟨u, hR, hk, hPh⟩, hPi, hPs, hPp, hPw, hPt⟩) dX6_way_62
    · exact nv_throwW (ws := wsX6_way) (ik := 263) (is := 265) (ic := 267) (cls := "java/util/NoSuchElementException") (text := "there is no way") (names := ["java/lang/RuntimeException", "java/lang/Exception"]) hq hx hb hl9 hown hts hT xNSEE_fit ⟨by decide +kernel, by decide +kernel⟩ ⟨by decide +kernel, by decide +kernel⟩ (fun w hw => List.mem_cons_of_mem _ (List.mem_append_left _ (List.mem_append_left _ (List.mem_append_right _ hw)))) xNSEE_bad xNSEE_ok hS (hl.1.trans hml.symm) dX6_way_49 dX6_way_52 dX6_way_53 dX6_way_56 dX6_way_59 hout (by decide) (Nat.le_of_ble_eq_true rfl) (Nat.le_of_ble_eq_true rfl) (Nat.le_of_ble_eq_true rfl) hlocks (Nat.le_of_ble_eq_true rfl) (Nat.le_of_ble_eq_true rfl) (by rw [if_pos ⟨c1, c2⟩, et_ak, et_bk, if_neg (way_no c4)]; exact Nat.succ_ne_zero _) (by rw [if_pos ⟨c1, c2⟩, et_ak, et_bk, if_neg (way_no c4)] <;> rfl) (fun H1 h9 => (cJ.grow (show cJ D cI cC cD cR AD u Sv Hi In Le hs ch ty wy ln ea ra wd _ from ⟨hPo, hPh, hPi, hPs, hPp, hPw, hPt⟩) h9).W hR hk)
  · refine lv_aload_n hx hb dX6_way_12 rfl (lv_at hl 0 rfl) ?_
    refine va_get (D := D) (ci := 8) (v := .ref ((cAd AD 157) 0)) (C := RX6) (T := TX6) (N := 11) hx hb hts in_X6 hown hK.1 hPo 0 rfl rfl 3 (by decide) fl_29 (fun _ h9 => h9) rfl dX6_way_13 ?_
    refine lv_aload_n hx hb dX6_way_16 rfl (lv_at hl 0 rfl) ?_
    refine va_get (D := D) (ci := 8) (v := .ref ((cAd AD 1) 0)) (C := RX6) (T := TX6) (N := 11) hx hb hts in_X6 hown hK.1 hPo 0 rfl rfl 0 (by decide) fl_10 (fun _ h9 => h9) rfl dX6_way_17 ?_
    refine lv_iload_n hx hb dX6_way_20 rfl (lv_at hl 1 rfl) ?_
    refine lv_iload_n hx hb dX6_way_21 rfl (lv_at hl 2 rfl) ?_
    refine nv_kS (va_runV (As := [.ref ((cAd AD 1) 0), .int (nI ak), .int (nI bk)]) (rest := []) ⟨hx, hb, hml, hown, hts⟩ (c_X5_passedBySets l hR hG (AD 157) ak bk (by omega) (by omega)) (cwV 3 hts gX6_way_X5_passedBySets rfl rfl rfl (by decide +kernel) ⟨Nat.le_of_ble_eq_true rfl, Nat.le_of_ble_eq_true rfl⟩) (nt_pV hT hS hPh (cWk.recv hK.1 hPw)) rfl rfl hl.1 rfl (lv_room (Nat.le_of_ble_eq_true rfl)) dX6_way_22 ⟨Nat.le_of_ble_eq_true rfl, Nat.le_of_ble_eq_true rfl⟩) ?_
    refine lv_goto (tgt := 41) hx hb dX6_way_25 (by decide) ?_
    refine lv_istore (lv' := [(4, .int ((if gWay G ak bk < 6 then nI (gWay G ak bk) else -1))), (0, .ref (AD 0)), (1, .int (nI ak)), (2, .int (nI bk)), (3, .int (nI z))]) hx hb dX6_way_41 hl (by decide) rfl (fun ls hl => ?_)
    refine lv_iload hx hb dX6_way_43 (lv_at hl 0 rfl) ?_
    refine lv_iconst (v := (-1)) hx hb dX6_way_45 (by decide) ?_
    refine lv_icmp_ne (tgt := 60) hx hb dX6_way_46 (by decide) (fun c5 => ?_) (fun c5 => ?_)
    · refine lv_iload hx hb dX6_way_60 (lv_at hl 0 rfl) ?_
      exact nv_retGX hq hx hb hr hlocks (Nat.le_of_ble_eq_true rfl) (Nat.le_of_ble_eq_true rfl) (nar_i _) (by rw [if_pos ⟨c1, c2⟩, et_ak, et_bk, if_pos (way_yes c5)]) (by rw [if_pos (way_yes c5), if_pos ⟨c1, c2⟩, et_ak, et_bk, if_pos (way_yes c5)]) hS (⟨hPo, ⟨u, hR, hk, hPh⟩, hPi, hPs, hPp, hPw, hPt⟩) dX6_way_62
    · exact nv_throwW (ws := wsX6_way) (ik := 263) (is := 265) (ic := 267) (cls := "java/util/NoSuchElementException") (text := "there is no way") (names := ["java/lang/RuntimeException", "java/lang/Exception"]) hq hx hb hl9 hown hts hT xNSEE_fit ⟨by decide +kernel, by decide +kernel⟩ ⟨by decide +kernel, by decide +kernel⟩ (fun w hw => List.mem_cons_of_mem _ (List.mem_append_left _ (List.mem_append_left _ (List.mem_append_right _ hw)))) xNSEE_bad xNSEE_ok hS (hl.1.trans hml.symm) dX6_way_49 dX6_way_52 dX6_way_53 dX6_way_56 dX6_way_59 hout (by decide) (Nat.le_of_ble_eq_true rfl) (Nat.le_of_ble_eq_true rfl) (Nat.le_of_ble_eq_true rfl) hlocks (Nat.le_of_ble_eq_true rfl) (Nat.le_of_ble_eq_true rfl) (by rw [if_pos ⟨c1, c2⟩, et_ak, et_bk, if_neg (way_no c5)]; exact Nat.succ_ne_zero _) (by rw [if_pos ⟨c1, c2⟩, et_ak, et_bk, if_neg (way_no c5)] <;> rfl) (fun H1 h9 => (cJ.grow (show cJ D cI cC cD cR AD u Sv Hi In Le hs ch ty wy ln ea ra wd _ from ⟨hPo, hPh, hPi, hPs, hPp, hPw, hPt⟩) h9).W hR hk)

set_option maxHeartbeats 1000000 in
set_option maxRecDepth 100000 in
theorem c_X6_best (l : Launch) (hl9 : l.stackTraces = false) {D : va_G} {cI cC cD cR : ClassId} {sa : sA} {A : Nat → Prop} {AD : Nat → Nat} {G Sv Hi In Le : Nat → Nat} {b hs ch ty wy ln : Nat} {ea ra wd : Int32} (hG : gWf b G) (hI : cInj AD) (hAA : ∀ i, i < 165 → A (AD i)) (r : Int32) : vx_Met l yX6_best wsX6_best ({ frames := 7, cells := 2, slots := 12, locals := 102 }) (va_Pc [.ref (AD 0), .int r] (tPre D [(cI, .int), (cC, .char), (cD, .object "DoorDialect$Door"), (cR, .object "DoorDialect$House")] nN sa A (cW D cI cC cD cR AD G Sv Hi In Le hs ch ty wy ln ea ra wd))) (gQX (if iR r 6 then (if gBb G (tN r) (G 0) = -1 then 2 else 0) else 1) ((if iR r 6 then (if gBb G (tN r) (G 0) = -1 then 0 else gBb G (tN r) (G 0)) else 0)) (cW D cI cC cD cR AD G Sv Hi In Le hs ch ty wy ln ea ra wd) A) (xQ ["java/lang/IndexOutOfBoundsException", "java/util/NoSuchElementException"] (if iR r 6 then (if gBb G (tN r) (G 0) = -1 then 2 else 0) else 1) (cW D cI cC cD cR AD G Sv Hi In Le hs ch ty wy ln ea ra wd) A) 2 12 A := by
  refine nv_metX (cc := cX6_best) (maxL := 6) (ret := (some .int)) (by decide) rfl (Nat.le_of_ble_eq_true rfl) ?_
  intro p0 e0 s m0 args below meth c0 Q hq hargs hnA hout hpre ls hl
  obtain ⟨hx, hb, hr, hts, hown, hlocks, hml⟩ := hnA
  obtain ⟨hP, hT⟩ := hpre
  have hK := hT.1
  have hown : s.vm.findClass RX6 = some m0.cls := hown
  obtain ⟨hPo, ⟨u, hR, hk, hPh⟩, hPi, hPs, hPp, hPw, hPt⟩ := hP
  have hPo : va_P D vwCl (cOb AD (hs) (wy) (wd) (ea) (ra)) s.heap := hPo
  have hPh : va_P D vwCl (hw cI cD (cAd AD 1) u) s.heap := hPh
  have hl : lv_has ls 6 [(0, .ref (AD 0)), (1, .int r)] := hl
  have hS : va_S A s.heap s.heap [] := va_S.rf
  have in_X1 : ∀ w ∈ wsX10, w ∈ wsX6_best := by decide +kernel
  have in_X6 : ∀ w ∈ wsX60, w ∈ wsX6_best := by decide +kernel
  have fl_10 := hts (.fieldLink RX6 10 "DoorDialect" "house" "LDoorDialect$House;") (by decide +kernel)
  have fl_29 := hts (.fieldLink RX6 29 "DoorDialect" "walk" "LDoorDialect$Walk;") (by decide +kernel)
  have fl_64 := hts (.fieldLink RX6 64 "DoorDialect$House" "doorCount" "I") (by decide +kernel)
  obtain ⟨g_b, g_k, g_0, g_1, g_2, g_e, g_d, g_t, g_y, g_s, g_h⟩ := id hG
  have zq0 : G 0 = G 0 := rfl
  have l3 := hG.lt (k := 3) (by decide)
  have l4 := hG.lt (k := 4) (by decide)
  have l5 := hG.lt (k := 5) (by decide)
  refine lv_iload_n hx hb dX6_best_0 rfl (lv_at hl 1 rfl) ?_
  refine nv_kGXv (vx_runS (As := [.int r]) (rest := []) ⟨hx, hb, hml, hown, hts⟩ (c_X6_requireRoom l hl9 (A := fun _ => False) (J := cJ D cI cC cD cR AD u Sv Hi In Le hs ch ty wy ln ea ra wd) (fun _ _ h9 h8 => h8.grow h9) ((r))) (va_cwS 1 hts gX6_best_X6_requireRoom rfl rfl rfl (by decide +kernel) ⟨Nat.le_of_ble_eq_true rfl, Nat.le_of_ble_eq_true rfl⟩) (nt_pSn hT hS (fun _ h9 => h9.elim) ⟨hPo, hPh, hPi, hPs, hPp, hPw, hPt⟩) rfl rfl hl.1 rfl (lv_room (Nat.le_of_ble_eq_true rfl)) dX6_best_1 ⟨Nat.le_of_ble_eq_true rfl, Nat.le_of_ble_eq_true rfl⟩) hS (fun _ h9 => h9.elim) hq hout hlocks (Nat.le_of_ble_eq_true rfl) (Nat.le_of_ble_eq_true rfl) (fun H h0 hP1 hK1 => ?_) (fun H locs h0 hP1 hK1 hS => ?_)
  · have hn : ¬ iR ((r)) 6 := fun q => h0 (if_pos q)
    exact ⟨by rw [if_neg hn]; exact Nat.one_ne_zero, by first | rw [if_neg hn, if_neg hn] <;> rfl | rw [if_neg hn] <;> rfl, hP1.W hR hk⟩
  obtain ⟨hPo, hPh, hPi, hPs, hPp, hPw, hPt⟩ := hP1
  have c1 : iR ((r)) 6 := if01 h0
  have c1k := c1
  obtain ⟨rk, h_rk, rfl⟩ := iR_of c1k (by decide)
  have et_rk : tN (nI rk) = rk := tN_nI (by omega)
  refine lv_aload_n hx hb dX6_best_4 rfl (lv_at hl 0 rfl) ?_
  refine va_get (D := D) (ci := 8) (v := .ref ((cAd AD 157) 0)) (C := RX6) (T := TX6) (N := 11) hx hb hts in_X6 hown hK.1 hPo 0 rfl rfl 3 (by decide) fl_29 (fun _ h9 => h9) rfl dX6_best_5 ?_
  refine lv_aload_n hx hb dX6_best_8 rfl (lv_at hl 0 rfl) ?_
  refine va_get (D := D) (ci := 8) (v := .ref ((cAd AD 1) 0)) (C := RX6) (T := TX6) (N := 11) hx hb hts in_X6 hown hK.1 hPo 0 rfl rfl 0 (by decide) fl_10 (fun _ h9 => h9) rfl dX6_best_9 ?_
  refine lv_iload_n hx hb dX6_best_12 rfl (lv_at hl 1 rfl) ?_
  refine lv_iconst (v := (-1)) hx hb dX6_best_13 (by decide) ?_
  refine nv_kS (va_runV (As := [.ref ((cAd AD 1) 0), .int (nI rk), .int ((-1))]) (rest := []) ⟨hx, hb, hml, hown, hts⟩ (c_X5_roomsFrom l hR hG (AD 157) rk (((-1))) (by omega)) (cwV 3 hts gX6_best_X5_roomsFrom rfl rfl rfl (by decide +kernel) ⟨Nat.le_of_ble_eq_true rfl, Nat.le_of_ble_eq_true rfl⟩) (nt_pV hT hS hPh (cWk.recv hK.1 hPw)) rfl rfl hl.1 rfl (lv_room (Nat.le_of_ble_eq_true rfl)) dX6_best_14 ⟨Nat.le_of_ble_eq_true rfl, Nat.le_of_ble_eq_true rfl⟩) ?_
  refine nv_kS (va_runS (As := [.int (nI (gRw G rk (((-1)))))]) (rest := []) ⟨hx, hb, hml, hown, hts⟩ (c_J6_bitCount_0f7a4 l (gRw G rk (((-1)))) (gRw_lt hG (by omega) _)) (va_cwS 1 hts gX6_best_J6_bitCount_0f7a4 rfl rfl rfl (by decide +kernel) ⟨Nat.le_of_ble_eq_true rfl, Nat.le_of_ble_eq_true rfl⟩) (nt_pS hT hS trivial) rfl rfl hl.1 rfl (lv_room (Nat.le_of_ble_eq_true rfl)) dX6_best_17 ⟨Nat.le_of_ble_eq_true rfl, Nat.le_of_ble_eq_true rfl⟩) ?_
  refine lv_istore_n (lv' := [(2, .int (nI (gBits (gRw G rk (((-1))))))), (0, .ref (AD 0)), (1, .int (nI rk))]) hx hb dX6_best_20 rfl hl (by decide) rfl (fun ls hl => ?_)
  refine lv_iconst (v := (-1)) hx hb dX6_best_21 (by decide) ?_
  refine lv_istore_n (lv' := [(3, .int ((-1))), (2, .int (nI (gBits (gRw G rk (((-1))))))), (0, .ref (AD 0)), (1, .int (nI rk))]) hx hb dX6_best_22 rfl hl (by decide) rfl (fun ls hl => ?_)
  refine lv_iconst (v := nI 0) hx hb dX6_best_23 (by decide) ?_
  refine lv_istore (lv' := [(4, .int (nI 0)), (3, .int ((-1))), (2, .int (nI (gBits (gRw G rk (((-1))))))), (0, .ref (AD 0)), (1, .int (nI rk))]) hx hb dX6_best_24 hl (by decide) rfl (fun ls hl => ?_)
  have hloop2 : ∀ (nn : Nat) (d : Nat) (m : Nat) (v : Int32), (d ≤ G 0) → (m = gBm G rk d) → (v = gBb G rk d) → G 0 - d < nn → ∀ (ls : Array Slot), lv_has ls 6 [(4, .int (nI d)), (3, .int v), (2, .int (nI m)), (0, .ref (AD 0)), (1, .int (nI rk))] → W p0 l e0 ({ frames := 7, cells := 2, slots := 12, locals := 102 }) s m0 args below meth c0 H locs 1 6 Q (F0 m0 26 ls []) := by
    intro nn26
    induction nn26 with
    | zero => intro d m v hd hm hv hn0  _ _; exact absurd hn0 (Nat.not_lt_zero _)
    | succ nn26 ih26 =>
      intro d m v hd hm hv hn26  ls hl
      refine lv_iload hx hb dX6_best_26 (lv_at hl 0 rfl) ?_
      refine lv_aload_n hx hb dX6_best_28 rfl (lv_at hl 3 rfl) ?_
      refine va_get (D := D) (ci := 8) (v := .ref ((cAd AD 1) 0)) (C := RX6) (T := TX6) (N := 11) hx hb hts in_X6 hown hK.1 hPo 0 rfl rfl 0 (by decide) fl_10 (fun _ h9 => h9) rfl dX6_best_29 ?_
      refine va_get (D := D) (ci := 3) (v := .int (nI (hs_c u 0))) (C := RX1) (T := TX1) (N := 12) hx hb hts in_X1 hown hK.1 hPh 0 rfl rfl 5 (by decide) fl_64 (fun _ h9 => h9) rfl dX6_best_32 ?_
      refine nv_to (G 0) (congrArg nI ((hR.c0))) ?_
      refine nv_icmp_ge (tgt := 75) hx hb dX6_best_35 (by decide) (by first | omega | exact Nat.lt_of_le_of_lt (gBits_le _) (by decide) | (rw [hm]; exact Nat.lt_of_le_of_lt (gBm_le _ _ _) (by decide))) (by first | omega | exact Nat.lt_of_le_of_lt (gBits_le _) (by decide) | (rw [hm]; exact Nat.lt_of_le_of_lt (gBm_le _ _ _) (by decide))) (fun c3 => ?_) (fun c3 => ?_)
      · have hb9 : v = gBb G rk (G 0) := by rw [hv, show d = G 0 by omega]
        refine lv_iload_n hx hb dX6_best_75 rfl (lv_at hl 1 rfl) ?_
        refine lv_iconst (v := (-1)) hx hb dX6_best_76 (by decide) ?_
        refine lv_icmp_ne (tgt := 91) hx hb dX6_best_77 (by decide) (fun c4 => ?_) (fun c4 => ?_)
        · refine lv_iload_n hx hb dX6_best_91 rfl (lv_at hl 1 rfl) ?_
          exact nv_retGX hq hx hb hr hlocks (Nat.le_of_ble_eq_true rfl) (Nat.le_of_ble_eq_true rfl) (nar_i _) (by rw [if_pos c1, et_rk, ← hb9, if_neg c4]) (by rw [if_pos c1, et_rk, ← hb9, if_neg c4]) hS (⟨hPo, ⟨u, hR, hk, hPh⟩, hPi, hPs, hPp, hPw, hPt⟩) dX6_best_92
        · exact nv_throwW (ws := wsX6_best) (ik := 263) (is := 276) (ic := 267) (cls := "java/util/NoSuchElementException") (text := "no door leads to one room more") (names := ["java/lang/RuntimeException", "java/lang/Exception"]) hq hx hb hl9 hown hts hT xNSEE_fit ⟨by decide +kernel, by decide +kernel⟩ ⟨by decide +kernel, by decide +kernel⟩ (fun w hw => List.mem_cons_of_mem _ (List.mem_append_left _ (List.mem_append_right _ hw))) xNSEE_bad xNSEE_ok hS (hl.1.trans hml.symm) dX6_best_80 dX6_best_83 dX6_best_84 dX6_best_87 dX6_best_90 hout (by decide) (Nat.le_of_ble_eq_true rfl) (Nat.le_of_ble_eq_true rfl) (Nat.le_of_ble_eq_true rfl) hlocks (Nat.le_of_ble_eq_true rfl) (Nat.le_of_ble_eq_true rfl) (by rw [if_pos c1, et_rk, ← hb9, if_pos c4]; exact Nat.succ_ne_zero _) (by rw [if_pos c1, et_rk, ← hb9, if_pos c4] <;> rfl) (fun H1 h9 => (cJ.grow (show cJ D cI cC cD cR AD u Sv Hi In Le hs ch ty wy ln ea ra wd _ from ⟨hPo, hPh, hPi, hPs, hPp, hPw, hPt⟩) h9).W hR hk)
      · refine lv_aload_n hx hb dX6_best_38 rfl (lv_at hl 3 rfl) ?_
        refine va_get (D := D) (ci := 8) (v := .ref ((cAd AD 157) 0)) (C := RX6) (T := TX6) (N := 11) hx hb hts in_X6 hown hK.1 hPo 0 rfl rfl 3 (by decide) fl_29 (fun _ h9 => h9) rfl dX6_best_39 ?_
        refine lv_aload_n hx hb dX6_best_42 rfl (lv_at hl 3 rfl) ?_
        refine va_get (D := D) (ci := 8) (v := .ref ((cAd AD 1) 0)) (C := RX6) (T := TX6) (N := 11) hx hb hts in_X6 hown hK.1 hPo 0 rfl rfl 0 (by decide) fl_10 (fun _ h9 => h9) rfl dX6_best_43 ?_
        refine lv_iload_n hx hb dX6_best_46 rfl (lv_at hl 4 rfl) ?_
        refine lv_iload hx hb dX6_best_47 (lv_at hl 0 rfl) ?_
        refine nv_kS (va_runV (As := [.ref ((cAd AD 1) 0), .int (nI rk), .int (nI d)]) (rest := []) ⟨hx, hb, hml, hown, hts⟩ (c_X5_roomsFrom l hR hG (AD 157) rk (nI (d)) (by omega)) (cwV 3 hts gX6_best_X5_roomsFrom rfl rfl rfl (by decide +kernel) ⟨Nat.le_of_ble_eq_true rfl, Nat.le_of_ble_eq_true rfl⟩) (nt_pV hT hS hPh (cWk.recv hK.1 hPw)) rfl rfl hl.1 rfl (lv_room (Nat.le_of_ble_eq_true rfl)) dX6_best_49 ⟨Nat.le_of_ble_eq_true rfl, Nat.le_of_ble_eq_true rfl⟩) ?_
        refine nv_kS (va_runS (As := [.int (nI (gRw G rk (nI (d))))]) (rest := []) ⟨hx, hb, hml, hown, hts⟩ (c_J6_bitCount_0f7a4 l (gRw G rk (nI (d))) (gRw_lt hG (by omega) _)) (va_cwS 1 hts gX6_best_J6_bitCount_0f7a4 rfl rfl rfl (by decide +kernel) ⟨Nat.le_of_ble_eq_true rfl, Nat.le_of_ble_eq_true rfl⟩) (nt_pS hT hS trivial) rfl rfl hl.1 rfl (lv_room (Nat.le_of_ble_eq_true rfl)) dX6_best_52 ⟨Nat.le_of_ble_eq_true rfl, Nat.le_of_ble_eq_true rfl⟩) ?_
        refine lv_istore (lv' := [(5, .int (nI (gBits (gRw G rk (nI (d)))))), (4, .int (nI d)), (3, .int v), (2, .int (nI m)), (0, .ref (AD 0)), (1, .int (nI rk))]) hx hb dX6_best_55 hl (by decide) rfl (fun ls hl => ?_)
        refine lv_iload hx hb dX6_best_57 (lv_at hl 0 rfl) ?_
        refine lv_iload_n hx hb dX6_best_59 rfl (lv_at hl 3 rfl) ?_
        refine nv_icmp_le (tgt := 69) hx hb dX6_best_60 (by decide) (by first | omega | exact Nat.lt_of_le_of_lt (gBits_le _) (by decide) | (rw [hm]; exact Nat.lt_of_le_of_lt (gBm_le _ _ _) (by decide))) (by first | omega | exact Nat.lt_of_le_of_lt (gBits_le _) (by decide) | (rw [hm]; exact Nat.lt_of_le_of_lt (gBm_le _ _ _) (by decide))) (fun c5 => ?_) (fun c5 => ?_)
        · refine lv_iinc (v := nI (d + 1)) (lv' := [(4, .int (nI (d + 1))), (5, .int (nI (gBits (gRw G rk (nI (d)))))), (3, .int v), (2, .int (nI m)), (0, .ref (AD 0)), (1, .int (nI rk))]) hx hb dX6_best_69 hl (k := 1) rfl (by show nI _ + Int32.ofInt 1 = _; exact nI_add _ 1) (by decide) rfl (fun ls hl => ?_)
          refine lv_goto (tgt := 26) hx hb dX6_best_72 (by decide) ?_
          exact ih26  (d + 1) m v ((by omega)) ((by rw [hm] at c5 ⊢; exact (if_pos c5).symm)) ((by rw [hm] at c5; rw [hv]; exact (if_pos c5).symm)) (by omega) ls (lv_sub hl [0, 2, 3, 4, 5] rfl)
        · refine lv_iload hx hb dX6_best_63 (lv_at hl 0 rfl) ?_
          refine lv_istore_n (lv' := [(2, .int (nI (gBits (gRw G rk (nI (d)))))), (5, .int (nI (gBits (gRw G rk (nI (d)))))), (4, .int (nI d)), (3, .int v), (0, .ref (AD 0)), (1, .int (nI rk))]) hx hb dX6_best_65 rfl hl (by decide) rfl (fun ls hl => ?_)
          refine lv_iload hx hb dX6_best_66 (lv_at hl 2 rfl) ?_
          refine lv_istore_n (lv' := [(3, .int (nI d)), (2, .int (nI (gBits (gRw G rk (nI (d)))))), (5, .int (nI (gBits (gRw G rk (nI (d)))))), (4, .int (nI d)), (0, .ref (AD 0)), (1, .int (nI rk))]) hx hb dX6_best_68 rfl hl (by decide) rfl (fun ls hl => ?_)
          refine lv_iinc (v := nI (d + 1)) (lv' := [(4, .int (nI (d + 1))), (3, .int (nI d)), (2, .int (nI (gBits (gRw G rk (nI (d)))))), (5, .int (nI (gBits (gRw G rk (nI (d)))))), (0, .ref (AD 0)), (1, .int (nI rk))]) hx hb dX6_best_69 hl (k := 3) rfl (by show nI _ + Int32.ofInt 1 = _; exact nI_add _ 1) (by decide) rfl (fun ls hl => ?_)
          refine lv_goto (tgt := 26) hx hb dX6_best_72 (by decide) ?_
          exact ih26  (d + 1) (gBits (gRw G rk (nI (d)))) (nI (d)) ((by omega)) ((by rw [hm] at c5; exact (if_neg c5).symm)) ((by rw [hm] at c5; exact (if_neg c5).symm)) (by omega) ls (lv_sub hl [0, 1, 2, 4, 5] rfl)
  exact hloop2 _ 0 (gBits (gRw G rk (-1))) ((-1)) ((Nat.zero_le _)) (rfl) (rfl) (Nat.lt_succ_self _) ls (lv_sub hl [0, 1, 2, 3, 4] rfl)

set_option maxHeartbeats 1000000 in
set_option maxRecDepth 100000 in
theorem c_X6_areFormsRight (l : Launch) {D : va_G} {cI cC cD cR : ClassId} {sa : sA} {A : Nat → Prop} {AD : Nat → Nat} {u : hS} {G : Nat → Nat} {b hs wy : Nat} {ea ra wd : Int32} (hR : hRel u G) (hG : gWf b G)  : Met l yX6_areFormsRight wsX6_areFormsRight ({ frames := 6, cells := 0, slots := 0, locals := 130 }) (va_Pc [.ref (AD 0)] (tPre D [(cI, .int), (cC, .char), (cD, .object "DoorDialect$Door"), (cR, .object "DoorDialect$House")] nN sa A (fun H => va_P D vwCl (cOb AD (hs) (wy) (wd) (ea) (ra)) H ∧ va_P D vwCl (hw cI cD (cAd AD 1) u) H))) (sQ (nI (1))) 0 0 (fun _ => False) := by
  refine nv_met (cc := cX6_areFormsRight) (maxL := 3) (ret := (some .boolean)) (by decide) rfl (Nat.le_of_ble_eq_true rfl) ?_
  intro p0 e0 s m0 args below meth c0 Q hq hargs hnA hpre ls hl
  obtain ⟨hx, hb, hr, hts, hown, hlocks, hml⟩ := hnA
  obtain ⟨hP, hT⟩ := hpre
  have hK := hT.1
  have hown : s.vm.findClass RX6 = some m0.cls := hown
  obtain ⟨hPo, hPh⟩ := hP
  have hPo : va_P D vwCl (cOb AD (hs) (wy) (wd) (ea) (ra)) s.heap := hPo
  have hPh : va_P D vwCl (hw cI cD (cAd AD 1) u) s.heap := hPh
  have hl : lv_has ls 3 [(0, .ref (AD 0))] := hl
  have hS : va_S A s.heap s.heap [] := va_S.rf
  have in_X1 : ∀ w ∈ wsX10, w ∈ wsX6_areFormsRight := by decide +kernel
  have in_X6 : ∀ w ∈ wsX60, w ∈ wsX6_areFormsRight := by decide +kernel
  have fl_10 := hts (.fieldLink RX6 10 "DoorDialect" "house" "LDoorDialect$House;") (by decide +kernel)
  have fl_64 := hts (.fieldLink RX6 64 "DoorDialect$House" "doorCount" "I") (by decide +kernel)
  obtain ⟨g_b, g_k, g_0, g_1, g_2, g_e, g_d, g_t, g_y, g_s, g_h⟩ := id hG
  have zq0 : G 0 = G 0 := rfl
  refine lv_iconst (v := nI 0) hx hb dX6_areFormsRight_0 (by decide) ?_
  refine lv_istore_n (lv' := [(1, .int (nI 0)), (0, .ref (AD 0))]) hx hb dX6_areFormsRight_1 rfl hl (by decide) rfl (fun ls hl => ?_)
  have hloop1 : ∀ (nn : Nat) (x : Nat), (x ≤ G 0) → G 0 - x < nn → ∀ (ls : Array Slot), lv_has ls 3 [(1, .int (nI x)), (0, .ref (AD 0))] → W p0 l e0 ({ frames := 6, cells := 0, slots := 0, locals := 130 }) s m0 args below meth c0 s.heap [] 0 0 Q (F0 m0 2 ls []) := by
    intro nn2
    induction nn2 with
    | zero => intro x hx9 hn0  _ _; exact absurd hn0 (Nat.not_lt_zero _)
    | succ nn2 ih2 =>
      intro x hx9 hn2  ls hl
      refine lv_iload_n hx hb dX6_areFormsRight_2 rfl (lv_at hl 0 rfl) ?_
      refine lv_aload_n hx hb dX6_areFormsRight_3 rfl (lv_at hl 1 rfl) ?_
      refine va_get (D := D) (ci := 8) (v := .ref ((cAd AD 1) 0)) (C := RX6) (T := TX6) (N := 11) hx hb hts in_X6 hown hK.1 hPo 0 rfl rfl 0 (by decide) fl_10 (fun _ h9 => h9) rfl dX6_areFormsRight_4 ?_
      refine va_get (D := D) (ci := 3) (v := .int (nI (hs_c u 0))) (C := RX1) (T := TX1) (N := 12) hx hb hts in_X1 hown hK.1 hPh 0 rfl rfl 5 (by decide) fl_64 (fun _ h9 => h9) rfl dX6_areFormsRight_7 ?_
      refine nv_to (G 0) (congrArg nI ((hR.c0))) ?_
      refine nv_icmp_ge (tgt := 61) hx hb dX6_areFormsRight_10 (by decide) (by first | omega | (have := bI_le (gAlike G x y); omega)) (by first | omega | (have := bI_le (gAlike G x y); omega)) (fun c2 => ?_) (fun c2 => ?_)
      · refine lv_iconst (v := nI 1) hx hb dX6_areFormsRight_61 (by decide) ?_
        exact nv_retS hq hx hb hr hlocks (nar_z (by first | omega | (have := bI_le (gAlike G x y); omega))) (rfl) dX6_areFormsRight_62
      · refine lv_iconst (v := nI 0) hx hb dX6_areFormsRight_13 (by decide) ?_
        refine lv_istore_n (lv' := [(2, .int (nI 0)), (1, .int (nI x)), (0, .ref (AD 0))]) hx hb dX6_areFormsRight_14 rfl hl (by decide) rfl (fun ls hl => ?_)
        have hloop3 : ∀ (nn : Nat) (y : Nat), (y ≤ G 0) → G 0 - y < nn → ∀ (ls : Array Slot), lv_has ls 3 [(2, .int (nI y)), (1, .int (nI x)), (0, .ref (AD 0))] → W p0 l e0 ({ frames := 6, cells := 0, slots := 0, locals := 130 }) s m0 args below meth c0 s.heap [] 0 0 Q (F0 m0 15 ls []) := by
          intro nn15
          induction nn15 with
          | zero => intro y hy9 hn0  _ _; exact absurd hn0 (Nat.not_lt_zero _)
          | succ nn15 ih15 =>
            intro y hy9 hn15  ls hl
            refine lv_iload_n hx hb dX6_areFormsRight_15 rfl (lv_at hl 0 rfl) ?_
            refine lv_aload_n hx hb dX6_areFormsRight_16 rfl (lv_at hl 2 rfl) ?_
            refine va_get (D := D) (ci := 8) (v := .ref ((cAd AD 1) 0)) (C := RX6) (T := TX6) (N := 11) hx hb hts in_X6 hown hK.1 hPo 0 rfl rfl 0 (by decide) fl_10 (fun _ h9 => h9) rfl dX6_areFormsRight_17 ?_
            refine va_get (D := D) (ci := 3) (v := .int (nI (hs_c u 0))) (C := RX1) (T := TX1) (N := 12) hx hb hts in_X1 hown hK.1 hPh 0 rfl rfl 5 (by decide) fl_64 (fun _ h9 => h9) rfl dX6_areFormsRight_20 ?_
            refine nv_to (G 0) (congrArg nI ((hR.c0))) ?_
            refine nv_icmp_ge (tgt := 55) hx hb dX6_areFormsRight_23 (by decide) (by first | omega | (have := bI_le (gAlike G x y); omega)) (by first | omega | (have := bI_le (gAlike G x y); omega)) (fun c4 => ?_) (fun c4 => ?_)
            · refine lv_iinc (v := nI (x + 1)) (lv' := [(1, .int (nI (x + 1))), (2, .int (nI y)), (0, .ref (AD 0))]) hx hb dX6_areFormsRight_55 hl (k := 1) rfl (by show nI _ + Int32.ofInt 1 = _; exact nI_add _ 1) (by decide) rfl (fun ls hl => ?_)
              refine lv_goto (tgt := 2) hx hb dX6_areFormsRight_58 (by decide) ?_
              exact ih2  (x + 1) ((by omega)) (by omega) ls (lv_sub hl [0, 2] rfl)
            · refine lv_aload_n hx hb dX6_areFormsRight_26 rfl (lv_at hl 2 rfl) ?_
              refine va_get (D := D) (ci := 8) (v := .ref ((cAd AD 1) 0)) (C := RX6) (T := TX6) (N := 11) hx hb hts in_X6 hown hK.1 hPo 0 rfl rfl 0 (by decide) fl_10 (fun _ h9 => h9) rfl dX6_areFormsRight_27 ?_
              refine lv_iload_n hx hb dX6_areFormsRight_30 rfl (lv_at hl 1 rfl) ?_
              refine lv_iload_n hx hb dX6_areFormsRight_31 rfl (lv_at hl 0 rfl) ?_
              refine nv_kS (va_runV (As := [.int (nI x), .int (nI y)]) (rest := []) ⟨hx, hb, hml, hown, hts⟩ (c_X1_areAlikeByLetters l hR hG x y (by omega) (by omega)) (cwV 2 hts gX6_areFormsRight_X1_areAlikeByLetters rfl rfl rfl (by decide +kernel) ⟨Nat.le_of_ble_eq_true rfl, Nat.le_of_ble_eq_true rfl⟩) (nt_pV hT hS hPh (va_recv hK.1 hPh (ci := 3) (q0 := 0) rfl rfl)) rfl rfl hl.1 rfl (lv_room (Nat.le_of_ble_eq_true rfl)) dX6_areFormsRight_32 ⟨Nat.zero_le _, Nat.zero_le _⟩) ?_
              refine lv_aload_n hx hb dX6_areFormsRight_35 rfl (lv_at hl 2 rfl) ?_
              refine va_get (D := D) (ci := 8) (v := .ref ((cAd AD 1) 0)) (C := RX6) (T := TX6) (N := 11) hx hb hts in_X6 hown hK.1 hPo 0 rfl rfl 0 (by decide) fl_10 (fun _ h9 => h9) rfl dX6_areFormsRight_36 ?_
              refine lv_iload_n hx hb dX6_areFormsRight_39 rfl (lv_at hl 1 rfl) ?_
              refine lv_iload_n hx hb dX6_areFormsRight_40 rfl (lv_at hl 0 rfl) ?_
              refine nv_kS (va_runV (As := [.int (nI x), .int (nI y)]) (rest := [.int (nI (bI (gAlike G x y)))]) ⟨hx, hb, hml, hown, hts⟩ (c_X1_areAlikeByNumbers l hR hG x y (by omega) (by omega)) (cwV 2 hts gX6_areFormsRight_X1_areAlikeByNumbers rfl rfl rfl (by decide +kernel) ⟨Nat.le_of_ble_eq_true rfl, Nat.le_of_ble_eq_true rfl⟩) (nt_pV hT hS hPh (va_recv hK.1 hPh (ci := 3) (q0 := 0) rfl rfl)) rfl rfl hl.1 rfl (lv_room (Nat.le_of_ble_eq_true rfl)) dX6_areFormsRight_41 ⟨Nat.zero_le _, Nat.zero_le _⟩) ?_
              refine nv_icmp_eq (tgt := 49) hx hb dX6_areFormsRight_44 (by decide) (by first | omega | (have := bI_le (gAlike G x y); omega)) (by first | omega | (have := bI_le (gAlike G x y); omega)) (fun c5 => ?_) (fun c5 => ?_)
              · refine lv_iinc (v := nI (y + 1)) (lv' := [(2, .int (nI (y + 1))), (1, .int (nI x)), (0, .ref (AD 0))]) hx hb dX6_areFormsRight_49 hl (k := 0) rfl (by show nI _ + Int32.ofInt 1 = _; exact nI_add _ 1) (by decide) rfl (fun ls hl => ?_)
                refine lv_goto (tgt := 15) hx hb dX6_areFormsRight_52 (by decide) ?_
                exact ih15  (y + 1) ((by omega)) (by omega) ls (lv_sub hl [0, 1, 2] rfl)
              · exact absurd rfl c5
        exact hloop3 _ 0 ((Nat.zero_le _)) (Nat.lt_succ_self _) ls (lv_sub hl [0, 1, 2] rfl)
  exact hloop1 _ 0 ((Nat.zero_le _)) (Nat.lt_succ_self _) ls (lv_sub hl [0, 1] rfl)

set_option maxHeartbeats 1000000 in
set_option maxRecDepth 100000 in
theorem c_X6_areDoorsRight (l : Launch) {D : va_G} {cI cC cD cR : ClassId} {sa : sA} {A : Nat → Prop} {AD : Nat → Nat} {u : hS} {G : Nat → Nat} {b hs wy : Nat} {ea ra wd : Int32} (hR : hRel u G) (hG : gWf b G)  : Met l yX6_areDoorsRight wsX6_areDoorsRight ({ frames := 4, cells := 0, slots := 0, locals := 89 }) (va_Pc [.ref (AD 0)] (tPre D [(cI, .int), (cC, .char), (cD, .object "DoorDialect$Door"), (cR, .object "DoorDialect$House")] nN sa A (fun H => va_P D vwCl (cOb AD (hs) (wy) (wd) (ea) (ra)) H ∧ va_P D vwCl (hw cI cD (cAd AD 1) u) H))) (sQ (nI (1))) 0 0 (fun _ => False) := by
  refine nv_met (cc := cX6_areDoorsRight) (maxL := 4) (ret := (some .boolean)) (by decide) rfl (Nat.le_of_ble_eq_true rfl) ?_
  intro p0 e0 s m0 args below meth c0 Q hq hargs hnA hpre ls hl
  obtain ⟨hx, hb, hr, hts, hown, hlocks, hml⟩ := hnA
  obtain ⟨hP, hT⟩ := hpre
  have hK := hT.1
  have hown : s.vm.findClass RX6 = some m0.cls := hown
  obtain ⟨hPo, hPh⟩ := hP
  have hPo : va_P D vwCl (cOb AD (hs) (wy) (wd) (ea) (ra)) s.heap := hPo
  have hPh : va_P D vwCl (hw cI cD (cAd AD 1) u) s.heap := hPh
  have hl : lv_has ls 4 [(0, .ref (AD 0))] := hl
  have hS : va_S A s.heap s.heap [] := va_S.rf
  have in_X0 : ∀ w ∈ wsX00, w ∈ wsX6_areDoorsRight := by decide +kernel
  have in_X1 : ∀ w ∈ wsX10, w ∈ wsX6_areDoorsRight := by decide +kernel
  have in_X6 : ∀ w ∈ wsX60, w ∈ wsX6_areDoorsRight := by decide +kernel
  have fl_10 := hts (.fieldLink RX6 10 "DoorDialect" "house" "LDoorDialect$House;") (by decide +kernel)
  have fl_64 := hts (.fieldLink RX6 64 "DoorDialect$House" "doorCount" "I") (by decide +kernel)
  have fl_128 := hts (.fieldLink RX6 128 "DoorDialect$House" "doors" "[LDoorDialect$Door;") (by decide +kernel)
  have fl_153 := hts (.fieldLink RX6 153 "DoorDialect$Door" "isLatched" "Z") (by decide +kernel)
  have fl_156 := hts (.fieldLink RX6 156 "DoorDialect$Door" "isOpen" "Z") (by decide +kernel)
  obtain ⟨g_b, g_k, g_0, g_1, g_2, g_e, g_d, g_t, g_y, g_s, g_h⟩ := id hG
  have zq0 : G 0 = G 0 := rfl
  refine lv_iconst (v := nI 0) hx hb dX6_areDoorsRight_0 (by decide) ?_
  refine lv_istore_n (lv' := [(1, .int (nI 0)), (0, .ref (AD 0))]) hx hb dX6_areDoorsRight_1 rfl hl (by decide) rfl (fun ls hl => ?_)
  have hloop1 : ∀ (nn : Nat) (d : Nat), (d ≤ G 0) → G 0 - d < nn → ∀ (ls : Array Slot), lv_has ls 4 [(1, .int (nI d)), (0, .ref (AD 0))] → W p0 l e0 ({ frames := 4, cells := 0, slots := 0, locals := 89 }) s m0 args below meth c0 s.heap [] 0 0 Q (F0 m0 2 ls []) := by
    intro nn2
    induction nn2 with
    | zero => intro d hd9 hn0  _ _; exact absurd hn0 (Nat.not_lt_zero _)
    | succ nn2 ih2 =>
      intro d hd9 hn2  ls hl
      refine lv_iload_n hx hb dX6_areDoorsRight_2 rfl (lv_at hl 0 rfl) ?_
      refine lv_aload_n hx hb dX6_areDoorsRight_3 rfl (lv_at hl 1 rfl) ?_
      refine va_get (D := D) (ci := 8) (v := .ref ((cAd AD 1) 0)) (C := RX6) (T := TX6) (N := 11) hx hb hts in_X6 hown hK.1 hPo 0 rfl rfl 0 (by decide) fl_10 (fun _ h9 => h9) rfl dX6_areDoorsRight_4 ?_
      refine va_get (D := D) (ci := 3) (v := .int (nI (hs_c u 0))) (C := RX1) (T := TX1) (N := 12) hx hb hts in_X1 hown hK.1 hPh 0 rfl rfl 5 (by decide) fl_64 (fun _ h9 => h9) rfl dX6_areDoorsRight_7 ?_
      refine nv_to (G 0) (congrArg nI ((hR.c0))) ?_
      refine nv_icmp_ge (tgt := 69) hx hb dX6_areDoorsRight_10 (by decide) (by first | omega | exact and_lt6 (Nat.lt_trans (b1shl_lt (k := gCase G d) (by omega)) (by decide)) | exact Nat.lt_of_le_of_lt Nat.and_le_left (Nat.lt_trans (bs_lt _ 4) (by decide))) (by first | omega | exact and_lt6 (Nat.lt_trans (b1shl_lt (k := gCase G d) (by omega)) (by decide)) | exact Nat.lt_of_le_of_lt Nat.and_le_left (Nat.lt_trans (bs_lt _ 4) (by decide))) (fun c2 => ?_) (fun c2 => ?_)
      · refine lv_iconst (v := nI 1) hx hb dX6_areDoorsRight_69 (by decide) ?_
        exact nv_retS hq hx hb hr hlocks (nar_z (by first | omega | exact and_lt6 (Nat.lt_trans (b1shl_lt (k := gCase G d) (by omega)) (by decide)) | exact Nat.lt_of_le_of_lt Nat.and_le_left (Nat.lt_trans (bs_lt _ 4) (by decide)))) (rfl) dX6_areDoorsRight_70
      · obtain ⟨w_a, w_g, w_n, w_s, w_w, w_l, w_o, w_x, w_y, w_1, w_2, w_3, w_4⟩ := hG.door (d := d) (by omega)
        have hcc := gWf_case hG (d := d) (by omega)
        have hee := gEnd_lt hG (d := d) (by omega)
        refine lv_aload_n hx hb dX6_areDoorsRight_13 rfl (lv_at hl 1 rfl) ?_
        refine va_get (D := D) (ci := 8) (v := .ref ((cAd AD 1) 0)) (C := RX6) (T := TX6) (N := 11) hx hb hts in_X6 hown hK.1 hPo 0 rfl rfl 0 (by decide) fl_10 (fun _ h9 => h9) rfl dX6_areDoorsRight_14 ?_
        refine va_get (D := D) (ci := 3) (v := .ref ((cAd AD 1) 1)) (C := RX1) (T := TX1) (N := 12) hx hb hts in_X1 hown hK.1 hPh 0 rfl rfl 0 (by decide) fl_128 (fun _ h9 => h9) rfl dX6_areDoorsRight_17 ?_
        refine lv_iload_n hx hb dX6_areDoorsRight_20 rfl (lv_at hl 0 rfl) ?_
        refine nv_aldq (i := d) hx hb hK.1 hPh 1 2 rfl rfl (by omega) (by decide) dX6_areDoorsRight_21 ?_
        refine lv_astore_n (lv' := [(2, .ref ((cAd AD 1) (6 + d))), (1, .int (nI d)), (0, .ref (AD 0))]) hx hb dX6_areDoorsRight_22 rfl hl (by decide) rfl (fun ls hl => ?_)
        refine lv_iconst (v := nI 1) hx hb dX6_areDoorsRight_23 (by decide) ?_
        refine lv_aload_n hx hb dX6_areDoorsRight_24 rfl (lv_at hl 2 rfl) ?_
        refine va_get (D := D) (ci := 8) (v := .ref ((cAd AD 1) 0)) (C := RX6) (T := TX6) (N := 11) hx hb hts in_X6 hown hK.1 hPo 0 rfl rfl 0 (by decide) fl_10 (fun _ h9 => h9) rfl dX6_areDoorsRight_25 ?_
        refine lv_aload_n hx hb dX6_areDoorsRight_28 rfl (lv_at hl 0 rfl) ?_
        refine nv_kS (va_runV (As := [.ref ((cAd AD 1) (6 + d))]) (rest := [.int (nI 1)]) ⟨hx, hb, hml, hown, hts⟩ (c_X1_caseOf l hR hG d (by omega)) (cwV 1 hts gX6_areDoorsRight_X1_caseOf rfl rfl rfl (by decide +kernel) ⟨Nat.le_of_ble_eq_true rfl, Nat.le_of_ble_eq_true rfl⟩) (nt_pV hT hS hPh (va_recv hK.1 hPh (ci := 3) (q0 := 0) rfl rfl)) rfl rfl hl.1 rfl (lv_room (Nat.le_of_ble_eq_true rfl)) dX6_areDoorsRight_29 ⟨Nat.zero_le _, Nat.zero_le _⟩) ?_
        refine lv_ishl hx hb dX6_areDoorsRight_32 ?_
        refine nv_to (1 <<< (gCase G d)) (nv_1shl (by omega)) ?_
        refine lv_istore_n (lv' := [(3, .int (nI (1 <<< (gCase G d)))), (2, .ref ((cAd AD 1) (6 + d))), (1, .int (nI d)), (0, .ref (AD 0))]) hx hb dX6_areDoorsRight_33 rfl hl (by decide) rfl (fun ls hl => ?_)
        refine lv_aload_n hx hb dX6_areDoorsRight_34 rfl (lv_at hl 3 rfl) ?_
        refine va_get (D := D) (ci := 8) (v := .ref ((cAd AD 1) 0)) (C := RX6) (T := TX6) (N := 11) hx hb hts in_X6 hown hK.1 hPo 0 rfl rfl 0 (by decide) fl_10 (fun _ h9 => h9) rfl dX6_areDoorsRight_35 ?_
        refine lv_aload_n hx hb dX6_areDoorsRight_38 rfl (lv_at hl 1 rfl) ?_
        refine nv_kS (va_runV (As := [.ref ((cAd AD 1) (6 + d))]) (rest := []) ⟨hx, hb, hml, hown, hts⟩ (c_X1_casesLikeOwn l hR hG d (by omega)) (cwV 1 hts gX6_areDoorsRight_X1_casesLikeOwn rfl rfl rfl (by decide +kernel) ⟨Nat.le_of_ble_eq_true rfl, Nat.le_of_ble_eq_true rfl⟩) (nt_pV hT hS hPh (va_recv hK.1 hPh (ci := 3) (q0 := 0) rfl rfl)) rfl rfl hl.1 rfl (lv_room (Nat.le_of_ble_eq_true rfl)) dX6_areDoorsRight_39 ⟨Nat.zero_le _, Nat.zero_le _⟩) ?_
        refine lv_iload_n hx hb dX6_areDoorsRight_42 rfl (lv_at hl 0 rfl) ?_
        refine lv_iand hx hb dX6_areDoorsRight_43 ?_
        refine nv_to ((gCould G d) &&& (1 <<< (gCase G d))) (nb_and _ _) ?_
        refine nv_if_eq (tgt := 61) hx hb dX6_areDoorsRight_44 (by decide) (by first | omega | exact and_lt6 (Nat.lt_trans (b1shl_lt (k := gCase G d) (by omega)) (by decide)) | exact Nat.lt_of_le_of_lt Nat.and_le_left (Nat.lt_trans (bs_lt _ 4) (by decide))) (fun c3 => ?_) (fun c3 => ?_)
        · exact absurd c3 (bs_and (P := fun c => G (gEndAt (G (32 + d)) c (G (48 + d))) = gEnd G d) (by omega) rfl)
        · refine lv_aload_n hx hb dX6_areDoorsRight_47 rfl (lv_at hl 1 rfl) ?_
          refine va_get (D := D) (ci := 2) (v := .int (nI (hs_d u (d) 9))) (C := RX0) (T := TX0) (N := 10) hx hb hts in_X0 hown hK.1 hPh (6 + (d)) (hw_at (d) (by omega)) rfl 9 (by decide) fl_156 (fun _ h9 => h9) rfl dX6_areDoorsRight_48 ?_
          refine nv_to (G (80 + d)) (congrArg nI ((hR.d9 (d := d) (by rw [zq0]; omega)))) ?_
          refine nv_if_eq (tgt := 63) hx hb dX6_areDoorsRight_51 (by decide) (by first | omega | exact and_lt6 (Nat.lt_trans (b1shl_lt (k := gCase G d) (by omega)) (by decide)) | exact Nat.lt_of_le_of_lt Nat.and_le_left (Nat.lt_trans (bs_lt _ 4) (by decide))) (fun c4 => ?_) (fun c4 => ?_)
          · refine lv_iinc (v := nI (d + 1)) (lv' := [(1, .int (nI (d + 1))), (3, .int (nI (1 <<< (gCase G d)))), (2, .ref ((cAd AD 1) (6 + d))), (0, .ref (AD 0))]) hx hb dX6_areDoorsRight_63 hl (k := 2) rfl (by show nI _ + Int32.ofInt 1 = _; exact nI_add _ 1) (by decide) rfl (fun ls hl => ?_)
            refine lv_goto (tgt := 2) hx hb dX6_areDoorsRight_66 (by decide) ?_
            exact ih2  (d + 1) ((by omega)) (by omega) ls (lv_sub hl [0, 3] rfl)
          · refine lv_aload_n hx hb dX6_areDoorsRight_54 rfl (lv_at hl 1 rfl) ?_
            refine va_get (D := D) (ci := 2) (v := .int (nI (hs_d u (d) 8))) (C := RX0) (T := TX0) (N := 10) hx hb hts in_X0 hown hK.1 hPh (6 + (d)) (hw_at (d) (by omega)) rfl 8 (by decide) fl_153 (fun _ h9 => h9) rfl dX6_areDoorsRight_55 ?_
            refine nv_to (G (72 + d)) (congrArg nI ((hR.d8 (d := d) (by rw [zq0]; omega)))) ?_
            refine nv_if_eq (tgt := 63) hx hb dX6_areDoorsRight_58 (by decide) (by first | omega | exact and_lt6 (Nat.lt_trans (b1shl_lt (k := gCase G d) (by omega)) (by decide)) | exact Nat.lt_of_le_of_lt Nat.and_le_left (Nat.lt_trans (bs_lt _ 4) (by decide))) (fun c5 => ?_) (fun c5 => ?_)
            · refine lv_iinc (v := nI (d + 1)) (lv' := [(1, .int (nI (d + 1))), (3, .int (nI (1 <<< (gCase G d)))), (2, .ref ((cAd AD 1) (6 + d))), (0, .ref (AD 0))]) hx hb dX6_areDoorsRight_63 hl (k := 2) rfl (by show nI _ + Int32.ofInt 1 = _; exact nI_add _ 1) (by decide) rfl (fun ls hl => ?_)
              refine lv_goto (tgt := 2) hx hb dX6_areDoorsRight_66 (by decide) ?_
              exact ih2  (d + 1) ((by omega)) (by omega) ls (lv_sub hl [0, 3] rfl)
            · exfalso; have := w_1 (by omega); omega
  exact hloop1 _ 0 ((Nat.zero_le _)) (Nat.lt_succ_self _) ls (lv_sub hl [0, 1] rfl)

set_option maxHeartbeats 1000000 in
set_option maxRecDepth 100000 in
theorem c_X6_areWaysRight (l : Launch) {D : va_G} {cI cC cD cR : ClassId} {sa : sA} {A : Nat → Prop} {AD : Nat → Nat} {u : hS} {G Sv Hi In Le : Nat → Nat} {b hs ch ty wy ln : Nat} {ea ra wd : Int32} (hR : hRel u G) (hG : gWf b G) (hI : cInj AD) (hAA : ∀ i, i < 165 → A (AD i))  : Met l yX6_areWaysRight wsX6_areWaysRight ({ frames := 3, cells := 0, slots := 0, locals := 73 }) (va_Pc [.ref (AD 0)] (tPre D [(cI, .int), (cC, .char), (cD, .object "DoorDialect$Door"), (cR, .object "DoorDialect$House")] nN sa A (cJ D cI cC cD cR AD u Sv Hi In Le hs ch ty wy ln ea ra wd))) (gQ (nI (1)) ((cJ D cI cC cD cR AD u Sv Hi In Le hs ch ty wy ln ea ra wd)) A) 0 0 A := by
  refine nv_met (cc := cX6_areWaysRight) (maxL := 3) (ret := (some .boolean)) (by decide) rfl (Nat.le_of_ble_eq_true rfl) ?_
  intro p0 e0 s m0 args below meth c0 Q hq hargs hnA hpre ls hl
  obtain ⟨hx, hb, hr, hts, hown, hlocks, hml⟩ := hnA
  obtain ⟨hP, hT⟩ := hpre
  have hK := hT.1
  have hown : s.vm.findClass RX6 = some m0.cls := hown
  obtain ⟨hPo, hPh, hPi, hPs, hPp, hPw, hPt⟩ := hP
  have hPo : va_P D vwCl (cOb AD (hs) (wy) (wd) (ea) (ra)) s.heap := hPo
  have hPh : va_P D vwCl (hw cI cD (cAd AD 1) u) s.heap := hPh
  have hl : lv_has ls 3 [(0, .ref (AD 0))] := hl
  have hS : va_S A s.heap s.heap [] := va_S.rf
  have in_X6 : ∀ w ∈ wsX60, w ∈ wsX6_areWaysRight := by decide +kernel
  have fl_10 := hts (.fieldLink RX6 10 "DoorDialect" "house" "LDoorDialect$House;") (by decide +kernel)
  have fl_29 := hts (.fieldLink RX6 29 "DoorDialect" "walk" "LDoorDialect$Walk;") (by decide +kernel)
  obtain ⟨g_b, g_k, g_0, g_1, g_2, g_e, g_d, g_t, g_y, g_s, g_h⟩ := id hG
  have zq0 : G 0 = G 0 := rfl
  refine lv_iconst (v := nI 0) hx hb dX6_areWaysRight_0 (by decide) ?_
  refine lv_istore_n (lv' := [(1, .int (nI 0)), (0, .ref (AD 0))]) hx hb dX6_areWaysRight_1 rfl hl (by decide) rfl (fun ls hl => ?_)
  have hloop1 : ∀ (nn : Nat) (x : Nat), (x ≤ 6) → 6 - x < nn → ∀ (H : Heap) (locs : List Loc), (cJ D cI cC cD cR AD u Sv Hi In Le hs ch ty wy ln ea ra wd) H → va_S A s.heap H locs → ∀ (ls : Array Slot), lv_has ls 3 [(1, .int (nI x)), (0, .ref (AD 0))] → W p0 l e0 ({ frames := 3, cells := 0, slots := 0, locals := 73 }) s m0 args below meth c0 H locs 0 0 Q (F0 m0 2 ls []) := by
    intro nn2
    induction nn2 with
    | zero => intro x hx9 hn0 _ _ _ _ _ _; exact absurd hn0 (Nat.not_lt_zero _)
    | succ nn2 ih2 =>
      intro x hx9 hn2 H locs hP hS ls hl
      obtain ⟨hPo, hPh, hPi, hPs, hPp, hPw, hPt⟩ := hP
      refine lv_iload_n hx hb dX6_areWaysRight_2 rfl (lv_at hl 0 rfl) ?_
      refine lv_bipush (v := nI 6) hx hb dX6_areWaysRight_3 (by decide) ?_
      refine nv_icmp_ge (tgt := 59) hx hb dX6_areWaysRight_5 (by decide) (by omega) (by omega) (fun c2 => ?_) (fun c2 => ?_)
      · refine lv_iconst (v := nI 1) hx hb dX6_areWaysRight_59 (by decide) ?_
        exact nv_retG hq hx hb hr hlocks (nar_z (by omega)) (rfl) hS (⟨hPo, hPh, hPi, hPs, hPp, hPw, hPt⟩) dX6_areWaysRight_60
      · refine lv_iconst (v := nI 0) hx hb dX6_areWaysRight_8 (by decide) ?_
        refine lv_istore_n (lv' := [(2, .int (nI 0)), (1, .int (nI x)), (0, .ref (AD 0))]) hx hb dX6_areWaysRight_9 rfl hl (by decide) rfl (fun ls hl => ?_)
        have hloop3 : ∀ (nn : Nat) (y : Nat), (y ≤ 6) → 6 - y < nn → ∀ (H : Heap) (locs : List Loc), (cJ D cI cC cD cR AD u Sv Hi In Le hs ch ty wy ln ea ra wd) H → va_S A s.heap H locs → ∀ (ls : Array Slot), lv_has ls 3 [(2, .int (nI y)), (1, .int (nI x)), (0, .ref (AD 0))] → W p0 l e0 ({ frames := 3, cells := 0, slots := 0, locals := 73 }) s m0 args below meth c0 H locs 0 0 Q (F0 m0 10 ls []) := by
          intro nn10
          induction nn10 with
          | zero => intro y hy9 hn0 _ _ _ _ _ _; exact absurd hn0 (Nat.not_lt_zero _)
          | succ nn10 ih10 =>
            intro y hy9 hn10 H locs hP hS ls hl
            obtain ⟨hPo, hPh, hPi, hPs, hPp, hPw, hPt⟩ := hP
            refine lv_iload_n hx hb dX6_areWaysRight_10 rfl (lv_at hl 0 rfl) ?_
            refine lv_bipush (v := nI 6) hx hb dX6_areWaysRight_11 (by decide) ?_
            refine nv_icmp_ge (tgt := 53) hx hb dX6_areWaysRight_13 (by decide) (by omega) (by omega) (fun c4 => ?_) (fun c4 => ?_)
            · refine lv_iinc (v := nI (x + 1)) (lv' := [(1, .int (nI (x + 1))), (2, .int (nI y)), (0, .ref (AD 0))]) hx hb dX6_areWaysRight_53 hl (k := 1) rfl (by show nI _ + Int32.ofInt 1 = _; exact nI_add _ 1) (by decide) rfl (fun ls hl => ?_)
              refine lv_goto (tgt := 2) hx hb dX6_areWaysRight_56 (by decide) ?_
              exact ih2  (x + 1) ((by omega)) (by omega) _ _ ⟨hPo, hPh, hPi, hPs, hPp, hPw, hPt⟩ hS ls (lv_sub hl [0, 2] rfl)
            · refine lv_aload_n hx hb dX6_areWaysRight_16 rfl (lv_at hl 2 rfl) ?_
              refine va_get (D := D) (ci := 8) (v := .ref ((cAd AD 157) 0)) (C := RX6) (T := TX6) (N := 11) hx hb hts in_X6 hown hK.1 hPo 0 rfl rfl 3 (by decide) fl_29 (fun _ h9 => h9) rfl dX6_areWaysRight_17 ?_
              refine lv_aload_n hx hb dX6_areWaysRight_20 rfl (lv_at hl 2 rfl) ?_
              refine va_get (D := D) (ci := 8) (v := .ref ((cAd AD 1) 0)) (C := RX6) (T := TX6) (N := 11) hx hb hts in_X6 hown hK.1 hPo 0 rfl rfl 0 (by decide) fl_10 (fun _ h9 => h9) rfl dX6_areWaysRight_21 ?_
              refine lv_iload_n hx hb dX6_areWaysRight_24 rfl (lv_at hl 1 rfl) ?_
              refine lv_iload_n hx hb dX6_areWaysRight_25 rfl (lv_at hl 0 rfl) ?_
              obtain ⟨PA, QA, hPwk⟩ := hPw
              refine nv_kG (va_runV (As := [.ref ((cAd AD 1) 0), .int (nI x), .int (nI y)]) (rest := []) ⟨hx, hb, hml, hown, hts⟩ (c_X5_passedByRooms l hR hG (cD_wk hI) x y (by omega) (by omega)) (cwV 3 hts gX6_areWaysRight_X5_passedByRooms rfl rfl rfl (by decide +kernel) ⟨Nat.le_of_ble_eq_true rfl, Nat.le_of_ble_eq_true rfl⟩) (nt_pVn hT hS (cRw_A hAA) (va_P.app hPwk hPh) (va_recv hK.1 hPwk (ci := 7) (q0 := 0) rfl rfl)) rfl rfl hl.1 rfl (lv_room (Nat.le_of_ble_eq_true rfl)) dX6_areWaysRight_26 ⟨Nat.zero_le _, Nat.zero_le _⟩) hS (cRw_A hAA) (fun H locs hP1 hK1 hS => ?_)
              obtain ⟨P1, Q1, hPwh⟩ := hP1
              have hPw : cWk D cI AD H := ⟨P1, Q1, va_P.left hPwh⟩
              have hPh := va_P.right hPwh
              have hPo := cOn_Ob.keepU hI hK1 hPo (by decide)
              have hPs := cOn_Sv.keepU hI hK1 hPs (by decide)
              have hPp := cOn_Pa.keepU hI hK1 hPp (by decide)
              have hPt := cOn_Tx.keepU hI hK1 hPt (by decide)
              have hPi := cOn_In.keepU hI hK1 hPi (by decide)
              refine lv_aload_n hx hb dX6_areWaysRight_29 rfl (lv_at hl 2 rfl) ?_
              refine va_get (D := D) (ci := 8) (v := .ref ((cAd AD 157) 0)) (C := RX6) (T := TX6) (N := 11) hx hb hts in_X6 hown hK.1 hPo 0 rfl rfl 3 (by decide) fl_29 (fun _ h9 => h9) rfl dX6_areWaysRight_30 ?_
              refine lv_aload_n hx hb dX6_areWaysRight_33 rfl (lv_at hl 2 rfl) ?_
              refine va_get (D := D) (ci := 8) (v := .ref ((cAd AD 1) 0)) (C := RX6) (T := TX6) (N := 11) hx hb hts in_X6 hown hK.1 hPo 0 rfl rfl 0 (by decide) fl_10 (fun _ h9 => h9) rfl dX6_areWaysRight_34 ?_
              refine lv_iload_n hx hb dX6_areWaysRight_37 rfl (lv_at hl 1 rfl) ?_
              refine lv_iload_n hx hb dX6_areWaysRight_38 rfl (lv_at hl 0 rfl) ?_
              refine nv_kS (va_runV (As := [.ref ((cAd AD 1) 0), .int (nI x), .int (nI y)]) (rest := [.int ((if gWay G x y < 6 then nI (gWay G x y) else -1))]) ⟨hx, hb, hml, hown, hts⟩ (c_X5_passedBySets l hR hG (AD 157) x y (by omega) (by omega)) (cwV 3 hts gX6_areWaysRight_X5_passedBySets rfl rfl rfl (by decide +kernel) ⟨Nat.le_of_ble_eq_true rfl, Nat.le_of_ble_eq_true rfl⟩) (nt_pV hT hS hPh (cWk.recv hK.1 hPw)) rfl rfl hl.1 rfl (lv_room (Nat.le_of_ble_eq_true rfl)) dX6_areWaysRight_39 ⟨Nat.zero_le _, Nat.zero_le _⟩) ?_
              refine lv_icmp_eq (tgt := 47) hx hb dX6_areWaysRight_42 (by decide) (fun c5 => ?_) (fun c5 => ?_)
              · refine lv_iinc (v := nI (y + 1)) (lv' := [(2, .int (nI (y + 1))), (1, .int (nI x)), (0, .ref (AD 0))]) hx hb dX6_areWaysRight_47 hl (k := 0) rfl (by show nI _ + Int32.ofInt 1 = _; exact nI_add _ 1) (by decide) rfl (fun ls hl => ?_)
                refine lv_goto (tgt := 10) hx hb dX6_areWaysRight_50 (by decide) ?_
                exact ih10  (y + 1) ((by omega)) (by omega) _ _ ⟨hPo, hPh, hPi, hPs, hPp, hPw, hPt⟩ hS ls (lv_sub hl [0, 1, 2] rfl)
              · exact absurd rfl c5
        exact hloop3 _ 0 ((Nat.zero_le _)) (Nat.lt_succ_self _) _ _ ⟨hPo, hPh, hPi, hPs, hPp, hPw, hPt⟩ hS ls (lv_sub hl [0, 1, 2] rfl)
  exact hloop1 _ 0 ((Nat.zero_le _)) (Nat.lt_succ_self _) _ _ ⟨hPo, hPh, hPi, hPs, hPp, hPw, hPt⟩ hS ls (lv_sub hl [0, 1] rfl)

set_option maxHeartbeats 1000000 in
set_option maxRecDepth 100000 in
theorem c_X6_isRight (l : Launch) {D : va_G} {cI cC cD cR : ClassId} {sa : sA} {A : Nat → Prop} {AD : Nat → Nat} {G Sv Hi In Le : Nat → Nat} {b hs ch ty wy ln : Nat} {ea ra wd : Int32} (hG : gWf b G) (hI : cInj AD) (hAA : ∀ i, i < 165 → A (AD i))  : Met l yX6_isRight wsX6_isRight ({ frames := 7, cells := 0, slots := 0, locals := 152 }) (va_Pc [.ref (AD 0)] (tPre D [(cI, .int), (cC, .char), (cD, .object "DoorDialect$Door"), (cR, .object "DoorDialect$House")] nN sa A (cW D cI cC cD cR AD G Sv Hi In Le hs ch ty wy ln ea ra wd))) (gQ (nI (1)) ((cW D cI cC cD cR AD G Sv Hi In Le hs ch ty wy ln ea ra wd)) A) 0 0 A := by
  refine nv_met (cc := cX6_isRight) (maxL := 1) (ret := (some .boolean)) (by decide) rfl (Nat.le_of_ble_eq_true rfl) ?_
  intro p0 e0 s m0 args below meth c0 Q hq hargs hnA hpre ls hl
  obtain ⟨hx, hb, hr, hts, hown, hlocks, hml⟩ := hnA
  obtain ⟨hP, hT⟩ := hpre
  have hK := hT.1
  have hown : s.vm.findClass RX6 = some m0.cls := hown
  obtain ⟨hPo, ⟨u, hR, hk, hPh⟩, hPi, hPs, hPp, hPw, hPt⟩ := hP
  have hPo : va_P D vwCl (cOb AD (hs) (wy) (wd) (ea) (ra)) s.heap := hPo
  have hPh : va_P D vwCl (hw cI cD (cAd AD 1) u) s.heap := hPh
  have hl : lv_has ls 1 [(0, .ref (AD 0))] := hl
  have hS : va_S A s.heap s.heap [] := va_S.rf
  obtain ⟨g_b, g_k, g_0, g_1, g_2, g_e, g_d, g_t, g_y, g_s, g_h⟩ := id hG
  have zq0 : G 0 = G 0 := rfl
  refine lv_aload_n hx hb dX6_isRight_0 rfl (lv_at hl 0 rfl) ?_
  refine nv_kS (va_runV (As := []) (rest := []) ⟨hx, hb, hml, hown, hts⟩ (c_X6_areFormsRight l hR hG) (cwV 0 hts gX6_isRight_X6_areFormsRight rfl rfl rfl (by decide +kernel) ⟨Nat.le_of_ble_eq_true rfl, Nat.le_of_ble_eq_true rfl⟩) (nt_pV hT hS ⟨hPo, hPh⟩ (va_recv hK.1 hPo (ci := 8) (q0 := 0) rfl rfl)) rfl rfl hl.1 rfl (lv_room (Nat.le_of_ble_eq_true rfl)) dX6_isRight_1 ⟨Nat.zero_le _, Nat.zero_le _⟩) ?_
  refine nv_if_eq (tgt := 25) hx hb dX6_isRight_4 (by decide) (by omega) (fun c1 => ?_) (fun c1 => ?_)
  · exact absurd c1 (by decide)
  · refine lv_aload_n hx hb dX6_isRight_7 rfl (lv_at hl 0 rfl) ?_
    refine nv_kG (va_runV (As := []) (rest := []) ⟨hx, hb, hml, hown, hts⟩ (c_X6_areWaysRight l (A := cRg AD 0 165) hR hG hI cRg_self) (cwV 0 hts gX6_isRight_X6_areWaysRight rfl rfl rfl (by decide +kernel) ⟨Nat.le_of_ble_eq_true rfl, Nat.le_of_ble_eq_true rfl⟩) (nt_pVn hT hS (cRg_A hAA (by decide)) ⟨hPo, hPh, hPi, hPs, hPp, hPw, hPt⟩ (va_recv hK.1 hPo (ci := 8) (q0 := 0) rfl rfl)) rfl rfl hl.1 rfl (lv_room (Nat.le_of_ble_eq_true rfl)) dX6_isRight_8 ⟨Nat.zero_le _, Nat.zero_le _⟩) hS (cRg_A hAA (by decide)) (fun H locs hP1 hK1 hS => ?_)
    obtain ⟨hPo, hPh, hPi, hPs, hPp, hPw, hPt⟩ := hP1
    refine nv_if_eq (tgt := 25) hx hb dX6_isRight_11 (by decide) (by omega) (fun c2 => ?_) (fun c2 => ?_)
    · exact absurd c2 (by decide)
    · refine lv_aload_n hx hb dX6_isRight_14 rfl (lv_at hl 0 rfl) ?_
      refine nv_kS (va_runV (As := []) (rest := []) ⟨hx, hb, hml, hown, hts⟩ (c_X6_areDoorsRight l hR hG) (cwV 0 hts gX6_isRight_X6_areDoorsRight rfl rfl rfl (by decide +kernel) ⟨Nat.le_of_ble_eq_true rfl, Nat.le_of_ble_eq_true rfl⟩) (nt_pV hT hS ⟨hPo, hPh⟩ (va_recv hK.1 hPo (ci := 8) (q0 := 0) rfl rfl)) rfl rfl hl.1 rfl (lv_room (Nat.le_of_ble_eq_true rfl)) dX6_isRight_15 ⟨Nat.zero_le _, Nat.zero_le _⟩) ?_
      refine nv_if_eq (tgt := 25) hx hb dX6_isRight_18 (by decide) (by omega) (fun c3 => ?_) (fun c3 => ?_)
      · exact absurd c3 (by decide)
      · refine lv_iconst (v := nI 1) hx hb dX6_isRight_21 (by decide) ?_
        refine lv_goto (tgt := 26) hx hb dX6_isRight_22 (by decide) ?_
        exact nv_retG hq hx hb hr hlocks (nar_z (by omega)) (rfl) hS (⟨hPo, ⟨u, hR, hk, hPh⟩, hPi, hPs, hPp, hPw, hPt⟩) dX6_isRight_26
