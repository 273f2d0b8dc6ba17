/-- the cells that an order is carried out over; J speaks of the rest -/
def cCy (D : va_G) (cI cC cD : ClassId) (AD : Nat → Nat) (u : hS) (hs wy : Nat) (ea ra wd : Int32) (V : Nat → Int32) (In : Nat → Nat) (o pl ty vc : Nat) (J : Heap → Prop) (H : Heap) : Prop :=
  va_P D vwCl (cOb AD hs wy wd ea ra) H ∧ va_P D vwCl (hw cI cD (cAd AD 1) u) H ∧ va_P D vwCl (iw cI cC (cAd AD 162) V In o pl ty vc) H ∧ J H
def cCz (D : va_G) (cI cC cD : ClassId) (AD : Nat → Nat) (v : V) (hs wy : Nat) (ea ra wd : Int32) (V : Nat → Int32) (In : Nat → Nat) (o pl ty vc : Nat) (J : Heap → Prop) (H : Heap) : Prop :=
  ∃ u, hRel u v.2.2.2.2 ∧ hOk u ∧ cCy D cI cC cD AD u hs (vWy v wy) ea ra (vWd v wd) V In o pl ty vc J H
theorem cOn_IJ {D : va_G} {cI cC : ClassId} {AD : Nat → Nat} {V : Nat → Int32} {In : Nat → Nat} {o pl ty vc : Nat} {J : Heap → Prop} (hJ : cOn AD 15 162 J) : cOn AD 15 165 (fun H => va_P D vwCl (iw cI cC (cAd AD 162) V In o pl ty vc) H ∧ J H) := cOn.and cOn_iw hJ (by decide) (Nat.le_refl _) (Nat.le_refl _) (by decide)
def flO (q : Nat) : List Nat := match q with
  | 0 => [1, 2, 3]
  | 1 => [1, 3]
  | 2 => [2, 1, 3]
  | 3 => [2, 3]
  | 4 => [1, 3]
  | 5 => [1, 3]
  | 6 => [2, 1, 3]
  | 7 => [2, 3]
  | _ => [2, 3]
theorem flO_ok (q : Nat) : fOk (flO q) := by
  unfold flO
  split
  · exact fOk_123
  · exact fOk_13
  · exact fOk_213
  · exact fOk_23
  · exact fOk_13
  · exact fOk_13
  · exact fOk_213
  · exact fOk_23
  · exact fOk_23
theorem vOrd_l (q : Nat) (a b c d e : Int32) (G : Nat → Nat) : (vOrd q a b c d e G).1 ≤ (flO q).length := by
  match q with
  | 0 => exact vDoor_n _ _ _ _ _ _
  | 1 => exact vSill_n2 _ _
  | 2 => exact vGovern_n _ _ _
  | 3 => exact vSet_n2 _ _ _
  | 4 => exact vTell_n2 _ _ _ _ _
  | 5 => exact vKey_n2 _ _ _
  | 6 => exact vKnock_n _ _ _ _ _
  | 7 => exact vShut_n2 _ _
  | r + 8 => exact vFree_n2 _ _ _

set_option maxHeartbeats 1000000 in
set_option maxRecDepth 100000 in
theorem c_X6_carryOutDoor (l : Launch) {D : va_G} {cI cC cD cR : ClassId} {sa : sA} {A : Nat → Prop} {AD : Nat → Nat} {u : hS} {G : Nat → Nat} {b hs wy : Nat} {ea ra wd : Int32} {V : Nat → Int32} {In : Nat → Nat} {o pl ty vc : Nat} {J : Heap → Prop} (hR : hRel u G) (hk : hOk u) (hG : gWf b G) (hI : cInj AD) (hAA : ∀ i, i < 165 → A (AD i)) (hJ : cOn AD 15 162 J) (h25 : 25 ≤ b) (hbb : b + 1 < 2 ^ 20) (a g : Int32) (z : Nat) (x y : Int32) (hz : z ≤ 1) (h0 : V 0 = a) (h1 : V 1 = g) (h2 : V 2 = nI z) (h3 : V 3 = x) (h4 : V 4 = y) : Met l yX6_carryOutDoor wsX6_carryOutDoor ({ frames := 2, cells := 0, slots := 0, locals := 50 }) (va_Pc [.ref (AD 0), .ref ((cAd AD 162) 1)] (tPre D [(cI, .int), (cC, .char), (cD, .object "DoorDialect$Door"), (cR, .object "DoorDialect$House")] nN sa A (cCy D cI cC cD AD u hs wy ea ra wd V In o pl ty vc J))) (gQ (nI (fC [1, 2, 3] (vDoor G a g z x y).1)) ((cCz D cI cC cD AD (vDoor G a g z x y) hs wy ea ra wd V In o pl ty vc J)) A) 0 0 A := by
  refine nv_met (cc := cX6_carryOutDoor) (maxL := 3) (ret := (some .int)) (by decide) rfl (Nat.le_of_ble_eq_true rfl) ?_
  intro p0 e0 s m0 args below meth c0 Q hq hargs hnA hpre ls hl
  obtain ⟨hx, hb, hr, hts, hown, hlocks, hml⟩ := hnA
  obtain ⟨hP, hT⟩ := hpre
  have hK := hT.1
  have hown : s.vm.findClass RX6 = some m0.cls := hown
  obtain ⟨hPo, hPh, hPi, hPj⟩ := hP
  have hPo : va_P D vwCl (cOb AD (hs) (wy) (wd) (ea) (ra)) s.heap := hPo
  have hPh : va_P D vwCl (hw cI cD (cAd AD 1) u) s.heap := hPh
  have hPi : va_P D vwCl (iw cI cC (cAd AD 162) (V) (In) (o) (pl) (ty) (vc)) s.heap := hPi
  have hl : lv_has ls 3 [(0, .ref (AD 0)), (1, .ref ((cAd AD 162) 1))] := hl
  have hS : va_S A s.heap s.heap [] := va_S.rf
  have in_X6 : ∀ w ∈ wsX60, w ∈ wsX6_carryOutDoor := by decide +kernel
  have fl_10 := hts (.fieldLink RX6 10 "DoorDialect" "house" "LDoorDialect$House;") (by decide +kernel)
  obtain ⟨g_b, g_k, g_0, g_1, g_2, g_e, g_d, g_t, g_y, g_s, g_h⟩ := id hG
  refine lv_aload_n hx hb dX6_carryOutDoor_0 rfl (lv_at hl 0 rfl) ?_
  refine lv_aload_n hx hb dX6_carryOutDoor_1 rfl (lv_at hl 1 rfl) ?_
  refine lv_iconst (v := nI 0) hx hb dX6_carryOutDoor_2 (by decide) ?_
  have hP := hPi
  refine nv_iald (i := 0) hx hb hK.1 hP 1 0 rfl rfl (by first | omega | (simp only [gEndAt]; omega)) (by decide) dX6_carryOutDoor_3 ?_
  refine iv_to a h0 ?_
  refine lv_aload_n hx hb dX6_carryOutDoor_4 rfl (lv_at hl 1 rfl) ?_
  refine lv_iconst (v := nI 1) hx hb dX6_carryOutDoor_5 (by decide) ?_
  have hP := hPi
  refine nv_iald (i := 1) hx hb hK.1 hP 1 0 rfl rfl (by first | omega | (simp only [gEndAt]; omega)) (by decide) dX6_carryOutDoor_6 ?_
  refine iv_to g h1 ?_
  refine lv_aload_n hx hb dX6_carryOutDoor_7 rfl (lv_at hl 1 rfl) ?_
  refine lv_iconst (v := nI 3) hx hb dX6_carryOutDoor_8 (by decide) ?_
  have hP := hPi
  refine nv_iald (i := 3) hx hb hK.1 hP 1 0 rfl rfl (by first | omega | (simp only [gEndAt]; omega)) (by decide) dX6_carryOutDoor_9 ?_
  refine iv_to x h3 ?_
  refine lv_aload_n hx hb dX6_carryOutDoor_10 rfl (lv_at hl 1 rfl) ?_
  refine lv_iconst (v := nI 4) hx hb dX6_carryOutDoor_11 (by decide) ?_
  have hP := hPi
  refine nv_iald (i := 4) hx hb hK.1 hP 1 0 rfl rfl (by first | omega | (simp only [gEndAt]; omega)) (by decide) dX6_carryOutDoor_12 ?_
  refine iv_to y h4 ?_
  refine nv_kG (va_runV (As := [.int a, .int g, .int x, .int y]) (rest := []) ⟨hx, hb, hml, hown, hts⟩ (c_X6_faultOfDoor l (A := cRg AD 0 165) (J := fun H => va_P D vwCl (iw cI cC (cAd AD 162) (V) (In) (o) (pl) (ty) (vc)) H ∧ J H) hR hG hI cRg_self (cOn_IJ hJ) ((a)) ((g)) z ((x)) ((y))) (cwV 4 hts gX6_carryOutDoor_X6_faultOfDoor rfl rfl rfl (by decide +kernel) ⟨Nat.le_of_ble_eq_true rfl, Nat.le_of_ble_eq_true rfl⟩) (nt_pVn hT hS (cRg_A hAA (by decide)) ⟨hPo, hPh, hPi, hPj⟩ (va_recv hK.1 hPo (ci := 8) (q0 := 0) rfl rfl)) rfl rfl hl.1 rfl (lv_room (Nat.le_of_ble_eq_true rfl)) dX6_carryOutDoor_13 ⟨Nat.zero_le _, Nat.zero_le _⟩) hS (cRg_A hAA (by decide)) (fun H locs hP1 hK1 hS => ?_)
  obtain ⟨hPo, hPh, hPi, hPj⟩ := hP1
  have hPo : va_P D vwCl (cOb AD (hs) (vWy (vDoor G ((a)) ((g)) z ((x)) ((y))) (wy)) (vWd (vDoor G ((a)) ((g)) z ((x)) ((y))) (wd)) (ea) (ra)) H := hPo
  have hfc := fC_ok (n := (vDoor G ((a)) ((g)) z ((x)) ((y))).1) fOk_123 (vDoor_n _ _ _ _ _ _)
  refine lv_istore_n (lv' := [(2, .int (nI (fC [1, 2, 3] (vDoor G ((a)) ((g)) z ((x)) ((y))).1))), (0, .ref (AD 0)), (1, .ref ((cAd AD 162) 1))]) hx hb dX6_carryOutDoor_16 rfl hl (by decide) rfl (fun ls hl => ?_)
  refine lv_iload_n hx hb dX6_carryOutDoor_17 rfl (lv_at hl 0 rfl) ?_
  refine nv_if_ne (tgt := 44) hx hb dX6_carryOutDoor_18 (by decide) (by omega) (fun c1 => ?_) (fun c1 => ?_)
  · have hn9 : ¬ (vDoor G ((a)) ((g)) z ((x)) ((y))).1 = 0 := fun q => c1 (hfc.2.1.mpr q)
    refine lv_iload_n hx hb dX6_carryOutDoor_44 rfl (lv_at hl 0 rfl) ?_
    exact nv_retG hq hx hb hr hlocks (nar_i _) (rfl) hS (⟨u, by rw [(vDoor_G hn9).1]; exact hR, hk, hPo, hPh, hPi, hPj⟩) dX6_carryOutDoor_45
  · have hv0 : (vDoor G ((a)) ((g)) z ((x)) ((y))).1 = 0 := hfc.2.1.mp c1
    obtain ⟨ak, gk, xk, yk, h_a, h_g, h_x, h_y, rfl, rfl, rfl, rfl, h8, hV⟩ := vDoor_ok hv0
    have hPo : va_P D vwCl (cOb AD (hs) (vWy (vDoor G (((nI ak))) (((nI gk))) z (((nI xk))) (((nI yk)))) (wy)) (vWd (vDoor G (((nI ak))) (((nI gk))) z (((nI xk))) (((nI yk)))) (wd)) (ea) (ra)) H := hPo
    refine lv_aload_n hx hb dX6_carryOutDoor_21 rfl (lv_at hl 1 rfl) ?_
    refine va_get (D := D) (ci := 8) (v := .ref ((cAd AD 1) 0)) (C := RX6) (T := TX6) (N := 11) hx hb hts in_X6 hown hK.1 hPo 0 rfl rfl 0 (by decide) fl_10 (fun _ h9 => h9) rfl dX6_carryOutDoor_22 ?_
    refine lv_aload_n hx hb dX6_carryOutDoor_25 rfl (lv_at hl 2 rfl) ?_
    refine lv_iconst (v := nI 0) hx hb dX6_carryOutDoor_26 (by decide) ?_
    have hP := hPi
    refine nv_iald (i := 0) hx hb hK.1 hP 1 0 rfl rfl (by first | omega | (simp only [gEndAt]; omega)) (by decide) dX6_carryOutDoor_27 ?_
    refine nv_to ak h0 ?_
    refine lv_aload_n hx hb dX6_carryOutDoor_28 rfl (lv_at hl 2 rfl) ?_
    refine lv_iconst (v := nI 1) hx hb dX6_carryOutDoor_29 (by decide) ?_
    have hP := hPi
    refine nv_iald (i := 1) hx hb hK.1 hP 1 0 rfl rfl (by first | omega | (simp only [gEndAt]; omega)) (by decide) dX6_carryOutDoor_30 ?_
    refine nv_to gk h1 ?_
    refine lv_aload_n hx hb dX6_carryOutDoor_31 rfl (lv_at hl 2 rfl) ?_
    refine lv_iconst (v := nI 2) hx hb dX6_carryOutDoor_32 (by decide) ?_
    have hP := hPi
    refine nv_iald (i := 2) hx hb hK.1 hP 1 0 rfl rfl (by first | omega | (simp only [gEndAt]; omega)) (by decide) dX6_carryOutDoor_33 ?_
    refine nv_to z h2 ?_
    refine lv_aload_n hx hb dX6_carryOutDoor_34 rfl (lv_at hl 2 rfl) ?_
    refine lv_iconst (v := nI 3) hx hb dX6_carryOutDoor_35 (by decide) ?_
    have hP := hPi
    refine nv_iald (i := 3) hx hb hK.1 hP 1 0 rfl rfl (by first | omega | (simp only [gEndAt]; omega)) (by decide) dX6_carryOutDoor_36 ?_
    refine nv_to xk h3 ?_
    refine lv_aload_n hx hb dX6_carryOutDoor_37 rfl (lv_at hl 2 rfl) ?_
    refine lv_iconst (v := nI 4) hx hb dX6_carryOutDoor_38 (by decide) ?_
    have hP := hPi
    refine nv_iald (i := 4) hx hb hK.1 hP 1 0 rfl rfl (by first | omega | (simp only [gEndAt]; omega)) (by decide) dX6_carryOutDoor_39 ?_
    refine nv_to yk h4 ?_
    refine nv_kG (va_runV (As := [.int (nI ak), .int (nI gk), .int (nI z), .int (nI xk), .int (nI yk)]) (rest := []) ⟨hx, hb, hml, hown, hts⟩ (c_X1_addDoor l hR hG hk (fun _ => cD_of hI (cAt_hw 1) (by decide)) ak gk z xk yk (by omega)) (cwV 5 hts gX6_carryOutDoor_X1_addDoor rfl rfl rfl (by decide +kernel) ⟨Nat.le_of_ble_eq_true rfl, Nat.le_of_ble_eq_true rfl⟩) (nt_pVn hT hS (cRg_A hAA (by decide)) hPh (va_recv hK.1 hPh (ci := 3) (q0 := 0) rfl rfl)) rfl rfl hl.1 rfl (lv_room (Nat.le_of_ble_eq_true rfl)) dX6_carryOutDoor_40 ⟨Nat.zero_le _, Nat.zero_le _⟩) hS (cRg_A hAA (by decide)) (fun H locs hP1 hK1 hS => ?_)
    obtain ⟨u, hR, hk, hPh⟩ := hP1
    have hPo := cOn_Ob.keep hI hK1 hPo (Or.inl (by decide)) (by decide) (by decide)
    have hPj := hJ.keep hI hK1 hPj (Or.inr (by decide)) (by decide) (by decide)
    have hPi := cOn_iw.keep hI hK1 hPi (Or.inr (by decide)) (by decide) (by decide)
    refine lv_pop hx hb dX6_carryOutDoor_43 rfl ?_
    refine lv_iload_n hx hb dX6_carryOutDoor_44 rfl (lv_at hl 0 rfl) ?_
    exact nv_retG hq hx hb hr hlocks (nar_i _) (rfl) hS (⟨u, by rw [hV]; exact hR, hk, hPo, hPh, hPi, hPj⟩) dX6_carryOutDoor_45

set_option maxHeartbeats 1000000 in
set_option maxRecDepth 100000 in
theorem c_X6_carryOutSill (l : Launch) {D : va_G} {cI cC cD cR : ClassId} {sa : sA} {A : Nat → Prop} {AD : Nat → Nat} {u : hS} {G : Nat → Nat} {b hs wy : Nat} {ea ra wd : Int32} {V : Nat → Int32} {In : Nat → Nat} {o pl ty vc : Nat} {J : Heap → Prop} (hR : hRel u G) (hk : hOk u) (hG : gWf b G) (hI : cInj AD) (hAA : ∀ i, i < 165 → A (AD i)) (hJ : cOn AD 15 162 J) (h25 : 25 ≤ b) (hbb : b + 1 < 2 ^ 20) (c : Int32) (h0 : V 0 = c) : Met l yX6_carryOutSill wsX6_carryOutSill ({ frames := 2, cells := 0, slots := 0, locals := 43 }) (va_Pc [.ref (AD 0), .ref ((cAd AD 162) 1)] (tPre D [(cI, .int), (cC, .char), (cD, .object "DoorDialect$Door"), (cR, .object "DoorDialect$House")] nN sa A (cCy D cI cC cD AD u hs wy ea ra wd V In o pl ty vc J))) (gQ (nI (fC [1, 3] (vSill G c).1)) ((cCz D cI cC cD AD (vSill G c) hs wy ea ra wd V In o pl ty vc J)) A) 0 0 A := by
  refine nv_met (cc := cX6_carryOutSill) (maxL := 3) (ret := (some .int)) (by decide) rfl (Nat.le_of_ble_eq_true rfl) ?_
  intro p0 e0 s m0 args below meth c0 Q hq hargs hnA hpre ls hl
  obtain ⟨hx, hb, hr, hts, hown, hlocks, hml⟩ := hnA
  obtain ⟨hP, hT⟩ := hpre
  have hK := hT.1
  have hown : s.vm.findClass RX6 = some m0.cls := hown
  obtain ⟨hPo, hPh, hPi, hPj⟩ := hP
  have hPo : va_P D vwCl (cOb AD (hs) (wy) (wd) (ea) (ra)) s.heap := hPo
  have hPh : va_P D vwCl (hw cI cD (cAd AD 1) u) s.heap := hPh
  have hPi : va_P D vwCl (iw cI cC (cAd AD 162) (V) (In) (o) (pl) (ty) (vc)) s.heap := hPi
  have hl : lv_has ls 3 [(0, .ref (AD 0)), (1, .ref ((cAd AD 162) 1))] := hl
  have hS : va_S A s.heap s.heap [] := va_S.rf
  have in_X6 : ∀ w ∈ wsX60, w ∈ wsX6_carryOutSill := by decide +kernel
  have fl_10 := hts (.fieldLink RX6 10 "DoorDialect" "house" "LDoorDialect$House;") (by decide +kernel)
  obtain ⟨g_b, g_k, g_0, g_1, g_2, g_e, g_d, g_t, g_y, g_s, g_h⟩ := id hG
  refine lv_aload_n hx hb dX6_carryOutSill_0 rfl (lv_at hl 0 rfl) ?_
  refine lv_aload_n hx hb dX6_carryOutSill_1 rfl (lv_at hl 1 rfl) ?_
  refine lv_iconst (v := nI 0) hx hb dX6_carryOutSill_2 (by decide) ?_
  have hP := hPi
  refine nv_iald (i := 0) hx hb hK.1 hP 1 0 rfl rfl (by first | omega | (simp only [gEndAt]; omega)) (by decide) dX6_carryOutSill_3 ?_
  refine iv_to c h0 ?_
  refine nv_kG (va_runV (As := [.int c]) (rest := []) ⟨hx, hb, hml, hown, hts⟩ (c_X6_faultOfThreshold l (A := cRg AD 0 165) (J := fun H => va_P D vwCl (iw cI cC (cAd AD 162) (V) (In) (o) (pl) (ty) (vc)) H ∧ J H) hR hG hI cRg_self (cOn_IJ hJ) ((c))) (cwV 1 hts gX6_carryOutSill_X6_faultOfThreshold rfl rfl rfl (by decide +kernel) ⟨Nat.le_of_ble_eq_true rfl, Nat.le_of_ble_eq_true rfl⟩) (nt_pVn hT hS (cRg_A hAA (by decide)) ⟨hPo, hPh, hPi, hPj⟩ (va_recv hK.1 hPo (ci := 8) (q0 := 0) rfl rfl)) rfl rfl hl.1 rfl (lv_room (Nat.le_of_ble_eq_true rfl)) dX6_carryOutSill_4 ⟨Nat.zero_le _, Nat.zero_le _⟩) hS (cRg_A hAA (by decide)) (fun H locs hP1 hK1 hS => ?_)
  obtain ⟨hPo, hPh, hPi, hPj⟩ := hP1
  have hPo : va_P D vwCl (cOb AD (hs) (vWy (vSill G ((c))) (wy)) (vWd (vSill G ((c))) (wd)) (ea) (ra)) H := hPo
  have hfc := fC_ok (n := (vSill G ((c))).1) fOk_13 (vSill_n2 _ _)
  refine lv_istore_n (lv' := [(2, .int (nI (fC [1, 3] (vSill G ((c))).1))), (0, .ref (AD 0)), (1, .ref ((cAd AD 162) 1))]) hx hb dX6_carryOutSill_7 rfl hl (by decide) rfl (fun ls hl => ?_)
  refine lv_iload_n hx hb dX6_carryOutSill_8 rfl (lv_at hl 0 rfl) ?_
  refine nv_if_ne (tgt := 23) hx hb dX6_carryOutSill_9 (by decide) (by omega) (fun c1 => ?_) (fun c1 => ?_)
  · have hn9 : ¬ (vSill G ((c))).1 = 0 := fun q => c1 (hfc.2.1.mpr q)
    refine lv_iload_n hx hb dX6_carryOutSill_23 rfl (lv_at hl 0 rfl) ?_
    exact nv_retG hq hx hb hr hlocks (nar_i _) (rfl) hS (⟨u, by rw [(vSill_G hn9).1]; exact hR, hk, hPo, hPh, hPi, hPj⟩) dX6_carryOutSill_24
  · have hv0 : (vSill G ((c))).1 = 0 := hfc.2.1.mp c1
    obtain ⟨ck, h_c, rfl, h8, hV⟩ := vSill_ok hv0
    have hPo : va_P D vwCl (cOb AD (hs) (vWy (vSill G (((nI ck)))) (wy)) (vWd (vSill G (((nI ck)))) (wd)) (ea) (ra)) H := hPo
    refine lv_aload_n hx hb dX6_carryOutSill_12 rfl (lv_at hl 1 rfl) ?_
    refine va_get (D := D) (ci := 8) (v := .ref ((cAd AD 1) 0)) (C := RX6) (T := TX6) (N := 11) hx hb hts in_X6 hown hK.1 hPo 0 rfl rfl 0 (by decide) fl_10 (fun _ h9 => h9) rfl dX6_carryOutSill_13 ?_
    refine lv_aload_n hx hb dX6_carryOutSill_16 rfl (lv_at hl 2 rfl) ?_
    refine lv_iconst (v := nI 0) hx hb dX6_carryOutSill_17 (by decide) ?_
    have hP := hPi
    refine nv_iald (i := 0) hx hb hK.1 hP 1 0 rfl rfl (by first | omega | (simp only [gEndAt]; omega)) (by decide) dX6_carryOutSill_18 ?_
    refine nv_to ck h0 ?_
    refine nv_kG (va_runV (As := [.int (nI ck)]) (rest := []) ⟨hx, hb, hml, hown, hts⟩ (c_X1_addThreshold l hR hG hk (fun _ => cD_of hI (cAt_hw 1) (by decide)) ck (by omega)) (cwV 1 hts gX6_carryOutSill_X1_addThreshold rfl rfl rfl (by decide +kernel) ⟨Nat.le_of_ble_eq_true rfl, Nat.le_of_ble_eq_true rfl⟩) (nt_pVn hT hS (cRg_A hAA (by decide)) hPh (va_recv hK.1 hPh (ci := 3) (q0 := 0) rfl rfl)) rfl rfl hl.1 rfl (lv_room (Nat.le_of_ble_eq_true rfl)) dX6_carryOutSill_19 ⟨Nat.zero_le _, Nat.zero_le _⟩) hS (cRg_A hAA (by decide)) (fun H locs hP1 hK1 hS => ?_)
    obtain ⟨u, hR, hk, hPh⟩ := hP1
    have hPo := cOn_Ob.keep hI hK1 hPo (Or.inl (by decide)) (by decide) (by decide)
    have hPj := hJ.keep hI hK1 hPj (Or.inr (by decide)) (by decide) (by decide)
    have hPi := cOn_iw.keep hI hK1 hPi (Or.inr (by decide)) (by decide) (by decide)
    refine lv_pop hx hb dX6_carryOutSill_22 rfl ?_
    refine lv_iload_n hx hb dX6_carryOutSill_23 rfl (lv_at hl 0 rfl) ?_
    exact nv_retG hq hx hb hr hlocks (nar_i _) (rfl) hS (⟨u, by rw [hV]; exact hR, hk, hPo, hPh, hPi, hPj⟩) dX6_carryOutSill_24

set_option maxHeartbeats 1000000 in
set_option maxRecDepth 100000 in
theorem c_X6_carryOutGovern (l : Launch) {D : va_G} {cI cC cD cR : ClassId} {sa : sA} {A : Nat → Prop} {AD : Nat → Nat} {u : hS} {G : Nat → Nat} {b hs wy : Nat} {ea ra wd : Int32} {V : Nat → Int32} {In : Nat → Nat} {o pl ty vc : Nat} {J : Heap → Prop} (hR : hRel u G) (hk : hOk u) (hG : gWf b G) (hI : cInj AD) (hAA : ∀ i, i < 165 → A (AD i)) (hJ : cOn AD 15 162 J) (h25 : 25 ≤ b) (hbb : b + 1 < 2 ^ 20) (t c : Int32) (h0 : V 0 = t) (h1 : V 1 = c) : Met l yX6_carryOutGovern wsX6_carryOutGovern ({ frames := 2, cells := 0, slots := 0, locals := 44 }) (va_Pc [.ref (AD 0), .ref ((cAd AD 162) 1)] (tPre D [(cI, .int), (cC, .char), (cD, .object "DoorDialect$Door"), (cR, .object "DoorDialect$House")] nN sa A (cCy D cI cC cD AD u hs wy ea ra wd V In o pl ty vc J))) (gQ (nI (fC [2, 1, 3] (vGovern G t c).1)) ((cCz D cI cC cD AD (vGovern G t c) hs wy ea ra wd V In o pl ty vc J)) A) 0 0 A := by
  refine nv_met (cc := cX6_carryOutGovern) (maxL := 3) (ret := (some .int)) (by decide) rfl (Nat.le_of_ble_eq_true rfl) ?_
  intro p0 e0 s m0 args below meth c0 Q hq hargs hnA hpre ls hl
  obtain ⟨hx, hb, hr, hts, hown, hlocks, hml⟩ := hnA
  obtain ⟨hP, hT⟩ := hpre
  have hK := hT.1
  have hown : s.vm.findClass RX6 = some m0.cls := hown
  obtain ⟨hPo, hPh, hPi, hPj⟩ := hP
  have hPo : va_P D vwCl (cOb AD (hs) (wy) (wd) (ea) (ra)) s.heap := hPo
  have hPh : va_P D vwCl (hw cI cD (cAd AD 1) u) s.heap := hPh
  have hPi : va_P D vwCl (iw cI cC (cAd AD 162) (V) (In) (o) (pl) (ty) (vc)) s.heap := hPi
  have hl : lv_has ls 3 [(0, .ref (AD 0)), (1, .ref ((cAd AD 162) 1))] := hl
  have hS : va_S A s.heap s.heap [] := va_S.rf
  have in_X6 : ∀ w ∈ wsX60, w ∈ wsX6_carryOutGovern := by decide +kernel
  have fl_10 := hts (.fieldLink RX6 10 "DoorDialect" "house" "LDoorDialect$House;") (by decide +kernel)
  obtain ⟨g_b, g_k, g_0, g_1, g_2, g_e, g_d, g_t, g_y, g_s, g_h⟩ := id hG
  refine lv_aload_n hx hb dX6_carryOutGovern_0 rfl (lv_at hl 0 rfl) ?_
  refine lv_aload_n hx hb dX6_carryOutGovern_1 rfl (lv_at hl 1 rfl) ?_
  refine lv_iconst (v := nI 0) hx hb dX6_carryOutGovern_2 (by decide) ?_
  have hP := hPi
  refine nv_iald (i := 0) hx hb hK.1 hP 1 0 rfl rfl (by first | omega | (simp only [gEndAt]; omega)) (by decide) dX6_carryOutGovern_3 ?_
  refine iv_to t h0 ?_
  refine lv_aload_n hx hb dX6_carryOutGovern_4 rfl (lv_at hl 1 rfl) ?_
  refine lv_iconst (v := nI 1) hx hb dX6_carryOutGovern_5 (by decide) ?_
  have hP := hPi
  refine nv_iald (i := 1) hx hb hK.1 hP 1 0 rfl rfl (by first | omega | (simp only [gEndAt]; omega)) (by decide) dX6_carryOutGovern_6 ?_
  refine iv_to c h1 ?_
  refine nv_kG (va_runV (As := [.int t, .int c]) (rest := []) ⟨hx, hb, hml, hown, hts⟩ (c_X6_faultOfGovern l (A := cRg AD 0 165) (J := fun H => va_P D vwCl (iw cI cC (cAd AD 162) (V) (In) (o) (pl) (ty) (vc)) H ∧ J H) hR hG hI cRg_self (cOn_IJ hJ) ((t)) ((c))) (cwV 2 hts gX6_carryOutGovern_X6_faultOfGovern rfl rfl rfl (by decide +kernel) ⟨Nat.le_of_ble_eq_true rfl, Nat.le_of_ble_eq_true rfl⟩) (nt_pVn hT hS (cRg_A hAA (by decide)) ⟨hPo, hPh, hPi, hPj⟩ (va_recv hK.1 hPo (ci := 8) (q0 := 0) rfl rfl)) rfl rfl hl.1 rfl (lv_room (Nat.le_of_ble_eq_true rfl)) dX6_carryOutGovern_7 ⟨Nat.zero_le _, Nat.zero_le _⟩) hS (cRg_A hAA (by decide)) (fun H locs hP1 hK1 hS => ?_)
  obtain ⟨hPo, hPh, hPi, hPj⟩ := hP1
  have hPo : va_P D vwCl (cOb AD (hs) (vWy (vGovern G ((t)) ((c))) (wy)) (vWd (vGovern G ((t)) ((c))) (wd)) (ea) (ra)) H := hPo
  have hfc := fC_ok (n := (vGovern G ((t)) ((c))).1) fOk_213 (vGovern_n _ _ _)
  refine lv_istore_n (lv' := [(2, .int (nI (fC [2, 1, 3] (vGovern G ((t)) ((c))).1))), (0, .ref (AD 0)), (1, .ref ((cAd AD 162) 1))]) hx hb dX6_carryOutGovern_10 rfl hl (by decide) rfl (fun ls hl => ?_)
  refine lv_iload_n hx hb dX6_carryOutGovern_11 rfl (lv_at hl 0 rfl) ?_
  refine nv_if_ne (tgt := 29) hx hb dX6_carryOutGovern_12 (by decide) (by omega) (fun c1 => ?_) (fun c1 => ?_)
  · have hn9 : ¬ (vGovern G ((t)) ((c))).1 = 0 := fun q => c1 (hfc.2.1.mpr q)
    refine lv_iload_n hx hb dX6_carryOutGovern_29 rfl (lv_at hl 0 rfl) ?_
    exact nv_retG hq hx hb hr hlocks (nar_i _) (rfl) hS (⟨u, by rw [(vGovern_G hn9).1]; exact hR, hk, hPo, hPh, hPi, hPj⟩) dX6_carryOutGovern_30
  · have hv0 : (vGovern G ((t)) ((c))).1 = 0 := hfc.2.1.mp c1
    obtain ⟨tk, ck, h_t, h_c, rfl, rfl, _, hV⟩ := vGovern_ok hv0 (by omega)
    have hPo : va_P D vwCl (cOb AD (hs) (vWy (vGovern G (((nI tk))) (((nI ck)))) (wy)) (vWd (vGovern G (((nI tk))) (((nI ck)))) (wd)) (ea) (ra)) H := hPo
    refine lv_aload_n hx hb dX6_carryOutGovern_15 rfl (lv_at hl 1 rfl) ?_
    refine va_get (D := D) (ci := 8) (v := .ref ((cAd AD 1) 0)) (C := RX6) (T := TX6) (N := 11) hx hb hts in_X6 hown hK.1 hPo 0 rfl rfl 0 (by decide) fl_10 (fun _ h9 => h9) rfl dX6_carryOutGovern_16 ?_
    refine lv_aload_n hx hb dX6_carryOutGovern_19 rfl (lv_at hl 2 rfl) ?_
    refine lv_iconst (v := nI 0) hx hb dX6_carryOutGovern_20 (by decide) ?_
    have hP := hPi
    refine nv_iald (i := 0) hx hb hK.1 hP 1 0 rfl rfl (by first | omega | (simp only [gEndAt]; omega)) (by decide) dX6_carryOutGovern_21 ?_
    refine nv_to tk h0 ?_
    refine lv_aload_n hx hb dX6_carryOutGovern_22 rfl (lv_at hl 2 rfl) ?_
    refine lv_iconst (v := nI 1) hx hb dX6_carryOutGovern_23 (by decide) ?_
    have hP := hPi
    refine nv_iald (i := 1) hx hb hK.1 hP 1 0 rfl rfl (by first | omega | (simp only [gEndAt]; omega)) (by decide) dX6_carryOutGovern_24 ?_
    refine nv_to ck h1 ?_
    refine nv_kG (va_runV (As := [.int (nI tk), .int (nI ck)]) (rest := []) ⟨hx, hb, hml, hown, hts⟩ (c_X1_changeGoverned l hR hG hk (fun _ => cD_of hI (cAt_hw 1) (by decide)) tk ck (by omega)) (cwV 2 hts gX6_carryOutGovern_X1_changeGoverned rfl rfl rfl (by decide +kernel) ⟨Nat.le_of_ble_eq_true rfl, Nat.le_of_ble_eq_true rfl⟩) (nt_pVn hT hS (cRg_A hAA (by decide)) hPh (va_recv hK.1 hPh (ci := 3) (q0 := 0) rfl rfl)) rfl rfl hl.1 rfl (lv_room (Nat.le_of_ble_eq_true rfl)) dX6_carryOutGovern_25 ⟨Nat.zero_le _, Nat.zero_le _⟩) hS (cRg_A hAA (by decide)) (fun H locs hP1 hK1 hS => ?_)
    obtain ⟨u, hR, hk, hPh⟩ := hP1
    have hPo := cOn_Ob.keep hI hK1 hPo (Or.inl (by decide)) (by decide) (by decide)
    have hPj := hJ.keep hI hK1 hPj (Or.inr (by decide)) (by decide) (by decide)
    have hPi := cOn_iw.keep hI hK1 hPi (Or.inr (by decide)) (by decide) (by decide)
    refine lv_pop hx hb dX6_carryOutGovern_28 rfl ?_
    refine lv_iload_n hx hb dX6_carryOutGovern_29 rfl (lv_at hl 0 rfl) ?_
    exact nv_retG hq hx hb hr hlocks (nar_i _) (rfl) hS (⟨u, by rw [hV]; exact hR, hk, hPo, hPh, hPi, hPj⟩) dX6_carryOutGovern_30

set_option maxHeartbeats 1000000 in
set_option maxRecDepth 100000 in
theorem c_X6_carryOutSet (l : Launch) {D : va_G} {cI cC cD cR : ClassId} {sa : sA} {A : Nat → Prop} {AD : Nat → Nat} {u : hS} {G : Nat → Nat} {b hs wy : Nat} {ea ra wd : Int32} {V : Nat → Int32} {In : Nat → Nat} {o pl ty vc : Nat} {J : Heap → Prop} (hR : hRel u G) (hk : hOk u) (hG : gWf b G) (hI : cInj AD) (hAA : ∀ i, i < 165 → A (AD i)) (hJ : cOn AD 15 162 J) (h25 : 25 ≤ b) (hbb : b + 1 < 2 ^ 20) (d t : Int32) (h0 : V 0 = d) (h1 : V 1 = t) : Met l yX6_carryOutSet wsX6_carryOutSet ({ frames := 3, cells := 0, slots := 0, locals := 64 }) (va_Pc [.ref (AD 0), .ref ((cAd AD 162) 1)] (tPre D [(cI, .int), (cC, .char), (cD, .object "DoorDialect$Door"), (cR, .object "DoorDialect$House")] nN sa A (cCy D cI cC cD AD u hs wy ea ra wd V In o pl ty vc J))) (gQ (nI (fC [2, 3] (vSet G d t).1)) ((cCz D cI cC cD AD (vSet G d t) hs wy ea ra wd V In o pl ty vc J)) A) 0 0 A := by
  refine nv_met (cc := cX6_carryOutSet) (maxL := 3) (ret := (some .int)) (by decide) rfl (Nat.le_of_ble_eq_true rfl) ?_
  intro p0 e0 s m0 args below meth c0 Q hq hargs hnA hpre ls hl
  obtain ⟨hx, hb, hr, hts, hown, hlocks, hml⟩ := hnA
  obtain ⟨hP, hT⟩ := hpre
  have hK := hT.1
  have hown : s.vm.findClass RX6 = some m0.cls := hown
  obtain ⟨hPo, hPh, hPi, hPj⟩ := hP
  have hPo : va_P D vwCl (cOb AD (hs) (wy) (wd) (ea) (ra)) s.heap := hPo
  have hPh : va_P D vwCl (hw cI cD (cAd AD 1) u) s.heap := hPh
  have hPi : va_P D vwCl (iw cI cC (cAd AD 162) (V) (In) (o) (pl) (ty) (vc)) s.heap := hPi
  have hl : lv_has ls 3 [(0, .ref (AD 0)), (1, .ref ((cAd AD 162) 1))] := hl
  have hS : va_S A s.heap s.heap [] := va_S.rf
  have in_X6 : ∀ w ∈ wsX60, w ∈ wsX6_carryOutSet := by decide +kernel
  have fl_10 := hts (.fieldLink RX6 10 "DoorDialect" "house" "LDoorDialect$House;") (by decide +kernel)
  obtain ⟨g_b, g_k, g_0, g_1, g_2, g_e, g_d, g_t, g_y, g_s, g_h⟩ := id hG
  refine lv_aload_n hx hb dX6_carryOutSet_0 rfl (lv_at hl 0 rfl) ?_
  refine lv_aload_n hx hb dX6_carryOutSet_1 rfl (lv_at hl 1 rfl) ?_
  refine lv_iconst (v := nI 0) hx hb dX6_carryOutSet_2 (by decide) ?_
  have hP := hPi
  refine nv_iald (i := 0) hx hb hK.1 hP 1 0 rfl rfl (by first | omega | (simp only [gEndAt]; omega)) (by decide) dX6_carryOutSet_3 ?_
  refine iv_to d h0 ?_
  refine lv_aload_n hx hb dX6_carryOutSet_4 rfl (lv_at hl 1 rfl) ?_
  refine lv_iconst (v := nI 1) hx hb dX6_carryOutSet_5 (by decide) ?_
  have hP := hPi
  refine nv_iald (i := 1) hx hb hK.1 hP 1 0 rfl rfl (by first | omega | (simp only [gEndAt]; omega)) (by decide) dX6_carryOutSet_6 ?_
  refine iv_to t h1 ?_
  refine nv_kG (va_runV (As := [.int d, .int t]) (rest := []) ⟨hx, hb, hml, hown, hts⟩ (c_X6_faultOfSet l (A := cRg AD 0 165) (J := fun H => va_P D vwCl (iw cI cC (cAd AD 162) (V) (In) (o) (pl) (ty) (vc)) H ∧ J H) hR hG hI cRg_self (cOn_IJ hJ) ((d)) ((t))) (cwV 2 hts gX6_carryOutSet_X6_faultOfSet rfl rfl rfl (by decide +kernel) ⟨Nat.le_of_ble_eq_true rfl, Nat.le_of_ble_eq_true rfl⟩) (nt_pVn hT hS (cRg_A hAA (by decide)) ⟨hPo, hPh, hPi, hPj⟩ (va_recv hK.1 hPo (ci := 8) (q0 := 0) rfl rfl)) rfl rfl hl.1 rfl (lv_room (Nat.le_of_ble_eq_true rfl)) dX6_carryOutSet_7 ⟨Nat.zero_le _, Nat.zero_le _⟩) hS (cRg_A hAA (by decide)) (fun H locs hP1 hK1 hS => ?_)
  obtain ⟨hPo, hPh, hPi, hPj⟩ := hP1
  have hPo : va_P D vwCl (cOb AD (hs) (vWy (vSet G ((d)) ((t))) (wy)) (vWd (vSet G ((d)) ((t))) (wd)) (ea) (ra)) H := hPo
  have hfc := fC_ok (n := (vSet G ((d)) ((t))).1) fOk_23 (vSet_n2 _ _ _)
  refine lv_istore_n (lv' := [(2, .int (nI (fC [2, 3] (vSet G ((d)) ((t))).1))), (0, .ref (AD 0)), (1, .ref ((cAd AD 162) 1))]) hx hb dX6_carryOutSet_10 rfl hl (by decide) rfl (fun ls hl => ?_)
  refine lv_iload_n hx hb dX6_carryOutSet_11 rfl (lv_at hl 0 rfl) ?_
  refine nv_if_ne (tgt := 29) hx hb dX6_carryOutSet_12 (by decide) (by omega) (fun c1 => ?_) (fun c1 => ?_)
  · have hn9 : ¬ (vSet G ((d)) ((t))).1 = 0 := fun q => c1 (hfc.2.1.mpr q)
    refine lv_iload_n hx hb dX6_carryOutSet_29 rfl (lv_at hl 0 rfl) ?_
    exact nv_retG hq hx hb hr hlocks (nar_i _) (rfl) hS (⟨u, by rw [(vSet_G hn9).1]; exact hR, hk, hPo, hPh, hPi, hPj⟩) dX6_carryOutSet_30
  · have hv0 : (vSet G ((d)) ((t))).1 = 0 := hfc.2.1.mp c1
    obtain ⟨dk, zk, h_d, h_z, rfl, htz, hV⟩ := vSet_ok hv0 (by omega) (by omega)
    have hPo : va_P D vwCl (cOb AD (hs) (vWy (vSet G (((nI dk))) ((t))) (wy)) (vWd (vSet G (((nI dk))) ((t))) (wd)) (ea) (ra)) H := hPo
    refine lv_aload_n hx hb dX6_carryOutSet_15 rfl (lv_at hl 1 rfl) ?_
    refine va_get (D := D) (ci := 8) (v := .ref ((cAd AD 1) 0)) (C := RX6) (T := TX6) (N := 11) hx hb hts in_X6 hown hK.1 hPo 0 rfl rfl 0 (by decide) fl_10 (fun _ h9 => h9) rfl dX6_carryOutSet_16 ?_
    refine lv_aload_n hx hb dX6_carryOutSet_19 rfl (lv_at hl 2 rfl) ?_
    refine lv_iconst (v := nI 0) hx hb dX6_carryOutSet_20 (by decide) ?_
    have hP := hPi
    refine nv_iald (i := 0) hx hb hK.1 hP 1 0 rfl rfl (by first | omega | (simp only [gEndAt]; omega)) (by decide) dX6_carryOutSet_21 ?_
    refine nv_to dk h0 ?_
    refine lv_aload_n hx hb dX6_carryOutSet_22 rfl (lv_at hl 2 rfl) ?_
    refine lv_iconst (v := nI 1) hx hb dX6_carryOutSet_23 (by decide) ?_
    have hP := hPi
    refine nv_iald (i := 1) hx hb hK.1 hP 1 0 rfl rfl (by first | omega | (simp only [gEndAt]; omega)) (by decide) dX6_carryOutSet_24 ?_
    refine iv_to t h1 ?_
    have hG2 : gWf (b + 1) (va_up G (56 + dk) zk) := by
      have h9 := vWf_vSet (G := G) (d := nI dk) (t := t) hG h25 hbb
      rw [hV] at h9; exact h9
    have hGm := gWf_mono hG (Nat.le_succ b) hbb
    refine nv_kG (va_runV (As := [.int (nI dk), .int t]) (rest := []) ⟨hx, hb, hml, hown, hts⟩ (c_X1_putOn l hR hGm hk (fun _ => cD_of hI (cAt_hw 1) (by decide)) dk zk ((t)) htz (by omega) hG2) (cwV 2 hts gX6_carryOutSet_X1_putOn rfl rfl rfl (by decide +kernel) ⟨Nat.le_of_ble_eq_true rfl, Nat.le_of_ble_eq_true rfl⟩) (nt_pVn hT hS (cRg_A hAA (by decide)) hPh (va_recv hK.1 hPh (ci := 3) (q0 := 0) rfl rfl)) rfl rfl hl.1 rfl (lv_room (Nat.le_of_ble_eq_true rfl)) dX6_carryOutSet_25 ⟨Nat.zero_le _, Nat.zero_le _⟩) hS (cRg_A hAA (by decide)) (fun H locs hP1 hK1 hS => ?_)
    obtain ⟨u, hR, hk, hPh⟩ := hP1
    have hPo := cOn_Ob.keep hI hK1 hPo (Or.inl (by decide)) (by decide) (by decide)
    have hPj := hJ.keep hI hK1 hPj (Or.inr (by decide)) (by decide) (by decide)
    have hPi := cOn_iw.keep hI hK1 hPi (Or.inr (by decide)) (by decide) (by decide)
    refine lv_pop hx hb dX6_carryOutSet_28 rfl ?_
    refine lv_iload_n hx hb dX6_carryOutSet_29 rfl (lv_at hl 0 rfl) ?_
    exact nv_retG hq hx hb hr hlocks (nar_i _) (rfl) hS (⟨u, by rw [hV]; exact hR, hk, hPo, hPh, hPi, hPj⟩) dX6_carryOutSet_30

set_option maxHeartbeats 1000000 in
set_option maxRecDepth 100000 in
theorem c_X6_carryOutEnd (l : Launch) {D : va_G} {cI cC cD cR : ClassId} {sa : sA} {A : Nat → Prop} {AD : Nat → Nat} {u : hS} {G : Nat → Nat} {b hs wy : Nat} {ea ra wd : Int32} {V : Nat → Int32} {In : Nat → Nat} {o pl ty vc : Nat} {J : Heap → Prop} (hR : hRel u G) (hk : hOk u) (hG : gWf b G) (hI : cInj AD) (hAA : ∀ i, i < 165 → A (AD i)) (hJ : cOn AD 15 162 J) (h25 : 25 ≤ b) (hbb : b + 1 < 2 ^ 20) (a c : Int32) (z : Nat) (x : Int32) (hz : z ≤ 1) (h0 : V 0 = a) (h1 : V 1 = c) (h2 : V 2 = nI z) (h3 : V 3 = x) : Met l yX6_carryOutEnd wsX6_carryOutEnd ({ frames := 3, cells := 0, slots := 0, locals := 70 }) (va_Pc [.ref (AD 0), .ref ((cAd AD 162) 1)] (tPre D [(cI, .int), (cC, .char), (cD, .object "DoorDialect$Door"), (cR, .object "DoorDialect$House")] nN sa A (cCy D cI cC cD AD u hs wy ea ra wd V In o pl ty vc J))) (gQ (nI (fC [1, 3] (vTell G a c z x).1)) ((cCz D cI cC cD AD (vTell G a c z x) hs wy ea ra wd V In o pl ty vc J)) A) 0 0 A := by
  refine nv_met (cc := cX6_carryOutEnd) (maxL := 3) (ret := (some .int)) (by decide) rfl (Nat.le_of_ble_eq_true rfl) ?_
  intro p0 e0 s m0 args below meth c0 Q hq hargs hnA hpre ls hl
  obtain ⟨hx, hb, hr, hts, hown, hlocks, hml⟩ := hnA
  obtain ⟨hP, hT⟩ := hpre
  have hK := hT.1
  have hown : s.vm.findClass RX6 = some m0.cls := hown
  obtain ⟨hPo, hPh, hPi, hPj⟩ := hP
  have hPo : va_P D vwCl (cOb AD (hs) (wy) (wd) (ea) (ra)) s.heap := hPo
  have hPh : va_P D vwCl (hw cI cD (cAd AD 1) u) s.heap := hPh
  have hPi : va_P D vwCl (iw cI cC (cAd AD 162) (V) (In) (o) (pl) (ty) (vc)) s.heap := hPi
  have hl : lv_has ls 3 [(0, .ref (AD 0)), (1, .ref ((cAd AD 162) 1))] := hl
  have hS : va_S A s.heap s.heap [] := va_S.rf
  have in_X6 : ∀ w ∈ wsX60, w ∈ wsX6_carryOutEnd := by decide +kernel
  have fl_10 := hts (.fieldLink RX6 10 "DoorDialect" "house" "LDoorDialect$House;") (by decide +kernel)
  obtain ⟨g_b, g_k, g_0, g_1, g_2, g_e, g_d, g_t, g_y, g_s, g_h⟩ := id hG
  refine lv_aload_n hx hb dX6_carryOutEnd_0 rfl (lv_at hl 0 rfl) ?_
  refine lv_aload_n hx hb dX6_carryOutEnd_1 rfl (lv_at hl 1 rfl) ?_
  refine lv_iconst (v := nI 0) hx hb dX6_carryOutEnd_2 (by decide) ?_
  have hP := hPi
  refine nv_iald (i := 0) hx hb hK.1 hP 1 0 rfl rfl (by first | omega | (simp only [gEndAt]; omega)) (by decide) dX6_carryOutEnd_3 ?_
  refine iv_to a h0 ?_
  refine lv_aload_n hx hb dX6_carryOutEnd_4 rfl (lv_at hl 1 rfl) ?_
  refine lv_iconst (v := nI 1) hx hb dX6_carryOutEnd_5 (by decide) ?_
  have hP := hPi
  refine nv_iald (i := 1) hx hb hK.1 hP 1 0 rfl rfl (by first | omega | (simp only [gEndAt]; omega)) (by decide) dX6_carryOutEnd_6 ?_
  refine iv_to c h1 ?_
  refine lv_aload_n hx hb dX6_carryOutEnd_7 rfl (lv_at hl 1 rfl) ?_
  refine lv_iconst (v := nI 2) hx hb dX6_carryOutEnd_8 (by decide) ?_
  have hP := hPi
  refine nv_iald (i := 2) hx hb hK.1 hP 1 0 rfl rfl (by first | omega | (simp only [gEndAt]; omega)) (by decide) dX6_carryOutEnd_9 ?_
  refine nv_to z h2 ?_
  refine lv_aload_n hx hb dX6_carryOutEnd_10 rfl (lv_at hl 1 rfl) ?_
  refine lv_iconst (v := nI 3) hx hb dX6_carryOutEnd_11 (by decide) ?_
  have hP := hPi
  refine nv_iald (i := 3) hx hb hK.1 hP 1 0 rfl rfl (by first | omega | (simp only [gEndAt]; omega)) (by decide) dX6_carryOutEnd_12 ?_
  refine iv_to x h3 ?_
  refine nv_kG (va_runV (As := [.int a, .int c, .int (nI z), .int x]) (rest := []) ⟨hx, hb, hml, hown, hts⟩ (c_X6_faultOfEnding l (A := cRg AD 0 165) (J := fun H => va_P D vwCl (iw cI cC (cAd AD 162) (V) (In) (o) (pl) (ty) (vc)) H ∧ J H) hR hG hI cRg_self (cOn_IJ hJ) ((a)) ((c)) z ((x)) (by omega)) (cwV 4 hts gX6_carryOutEnd_X6_faultOfEnding rfl rfl rfl (by decide +kernel) ⟨Nat.le_of_ble_eq_true rfl, Nat.le_of_ble_eq_true rfl⟩) (nt_pVn hT hS (cRg_A hAA (by decide)) ⟨hPo, hPh, hPi, hPj⟩ (va_recv hK.1 hPo (ci := 8) (q0 := 0) rfl rfl)) rfl rfl hl.1 rfl (lv_room (Nat.le_of_ble_eq_true rfl)) dX6_carryOutEnd_13 ⟨Nat.zero_le _, Nat.zero_le _⟩) hS (cRg_A hAA (by decide)) (fun H locs hP1 hK1 hS => ?_)
  obtain ⟨hPo, hPh, hPi, hPj⟩ := hP1
  have hPo : va_P D vwCl (cOb AD (hs) (vWy (vTell G ((a)) ((c)) z ((x))) (wy)) (vWd (vTell G ((a)) ((c)) z ((x))) (wd)) (ea) (ra)) H := hPo
  have hfc := fC_ok (n := (vTell G ((a)) ((c)) z ((x))).1) fOk_13 (vTell_n2 _ _ _ _ _)
  refine lv_istore_n (lv' := [(2, .int (nI (fC [1, 3] (vTell G ((a)) ((c)) z ((x))).1))), (0, .ref (AD 0)), (1, .ref ((cAd AD 162) 1))]) hx hb dX6_carryOutEnd_16 rfl hl (by decide) rfl (fun ls hl => ?_)
  refine lv_iload_n hx hb dX6_carryOutEnd_17 rfl (lv_at hl 0 rfl) ?_
  refine nv_if_ne (tgt := 41) hx hb dX6_carryOutEnd_18 (by decide) (by omega) (fun c1 => ?_) (fun c1 => ?_)
  · have hn9 : ¬ (vTell G ((a)) ((c)) z ((x))).1 = 0 := fun q => c1 (hfc.2.1.mpr q)
    refine lv_iload_n hx hb dX6_carryOutEnd_41 rfl (lv_at hl 0 rfl) ?_
    exact nv_retG hq hx hb hr hlocks (nar_i _) (rfl) hS (⟨u, by rw [(vTell_G hn9).1]; exact hR, hk, hPo, hPh, hPi, hPj⟩) dX6_carryOutEnd_42
  · have hv0 : (vTell G ((a)) ((c)) z ((x))).1 = 0 := hfc.2.1.mp c1
    obtain ⟨ak, ck, xk, h_a, h_c, h_x, rfl, rfl, rfl, _, hV⟩ := vTell_ok hv0
    have hPo : va_P D vwCl (cOb AD (hs) (vWy (vTell G (((nI ak))) (((nI ck))) z (((nI xk)))) (wy)) (vWd (vTell G (((nI ak))) (((nI ck))) z (((nI xk)))) (wd)) (ea) (ra)) H := hPo
    refine lv_aload_n hx hb dX6_carryOutEnd_21 rfl (lv_at hl 1 rfl) ?_
    refine va_get (D := D) (ci := 8) (v := .ref ((cAd AD 1) 0)) (C := RX6) (T := TX6) (N := 11) hx hb hts in_X6 hown hK.1 hPo 0 rfl rfl 0 (by decide) fl_10 (fun _ h9 => h9) rfl dX6_carryOutEnd_22 ?_
    refine lv_aload_n hx hb dX6_carryOutEnd_25 rfl (lv_at hl 2 rfl) ?_
    refine lv_iconst (v := nI 0) hx hb dX6_carryOutEnd_26 (by decide) ?_
    have hP := hPi
    refine nv_iald (i := 0) hx hb hK.1 hP 1 0 rfl rfl (by first | omega | (simp only [gEndAt]; omega)) (by decide) dX6_carryOutEnd_27 ?_
    refine nv_to ak h0 ?_
    refine lv_aload_n hx hb dX6_carryOutEnd_28 rfl (lv_at hl 2 rfl) ?_
    refine lv_iconst (v := nI 1) hx hb dX6_carryOutEnd_29 (by decide) ?_
    have hP := hPi
    refine nv_iald (i := 1) hx hb hK.1 hP 1 0 rfl rfl (by first | omega | (simp only [gEndAt]; omega)) (by decide) dX6_carryOutEnd_30 ?_
    refine nv_to ck h1 ?_
    refine lv_aload_n hx hb dX6_carryOutEnd_31 rfl (lv_at hl 2 rfl) ?_
    refine lv_iconst (v := nI 2) hx hb dX6_carryOutEnd_32 (by decide) ?_
    have hP := hPi
    refine nv_iald (i := 2) hx hb hK.1 hP 1 0 rfl rfl (by first | omega | (simp only [gEndAt]; omega)) (by decide) dX6_carryOutEnd_33 ?_
    refine nv_to z h2 ?_
    refine lv_aload_n hx hb dX6_carryOutEnd_34 rfl (lv_at hl 2 rfl) ?_
    refine lv_iconst (v := nI 3) hx hb dX6_carryOutEnd_35 (by decide) ?_
    have hP := hPi
    refine nv_iald (i := 3) hx hb hK.1 hP 1 0 rfl rfl (by first | omega | (simp only [gEndAt]; omega)) (by decide) dX6_carryOutEnd_36 ?_
    refine nv_to xk h3 ?_
    refine nv_kG (va_runV (As := [.int (nI ak), .int (nI ck), .int (nI z), .int (nI xk)]) (rest := []) ⟨hx, hb, hml, hown, hts⟩ (c_X1_changeLetter l hR hG hk (fun _ => cD_of hI (cAt_hw 1) (by decide)) ak ck z xk (by omega) (by omega) (by omega)) (cwV 4 hts gX6_carryOutEnd_X1_changeLetter rfl rfl rfl (by decide +kernel) ⟨Nat.le_of_ble_eq_true rfl, Nat.le_of_ble_eq_true rfl⟩) (nt_pVn hT hS (cRg_A hAA (by decide)) hPh (va_recv hK.1 hPh (ci := 3) (q0 := 0) rfl rfl)) rfl rfl hl.1 rfl (lv_room (Nat.le_of_ble_eq_true rfl)) dX6_carryOutEnd_37 ⟨Nat.zero_le _, Nat.zero_le _⟩) hS (cRg_A hAA (by decide)) (fun H locs hP1 hK1 hS => ?_)
    obtain ⟨u, hR, hk, hPh⟩ := hP1
    have hPo := cOn_Ob.keep hI hK1 hPo (Or.inl (by decide)) (by decide) (by decide)
    have hPj := hJ.keep hI hK1 hPj (Or.inr (by decide)) (by decide) (by decide)
    have hPi := cOn_iw.keep hI hK1 hPi (Or.inr (by decide)) (by decide) (by decide)
    refine lv_pop hx hb dX6_carryOutEnd_40 rfl ?_
    refine lv_iload_n hx hb dX6_carryOutEnd_41 rfl (lv_at hl 0 rfl) ?_
    exact nv_retG hq hx hb hr hlocks (nar_i _) (rfl) hS (⟨u, by rw [hV]; exact hR, hk, hPo, hPh, hPi, hPj⟩) dX6_carryOutEnd_42

set_option maxHeartbeats 1000000 in
set_option maxRecDepth 100000 in
theorem c_X6_carryOutKey (l : Launch) {D : va_G} {cI cC cD cR : ClassId} {sa : sA} {A : Nat → Prop} {AD : Nat → Nat} {u : hS} {G : Nat → Nat} {b hs wy : Nat} {ea ra wd : Int32} {V : Nat → Int32} {In : Nat → Nat} {o pl ty vc : Nat} {J : Heap → Prop} (hR : hRel u G) (hk : hOk u) (hG : gWf b G) (hI : cInj AD) (hAA : ∀ i, i < 165 → A (AD i)) (hJ : cOn AD 15 162 J) (h25 : 25 ≤ b) (hbb : b + 1 < 2 ^ 20) (a g : Int32) (h0 : V 0 = a) (h1 : V 1 = g) : Met l yX6_carryOutKey wsX6_carryOutKey ({ frames := 2, cells := 0, slots := 0, locals := 46 }) (va_Pc [.ref (AD 0), .ref ((cAd AD 162) 1)] (tPre D [(cI, .int), (cC, .char), (cD, .object "DoorDialect$Door"), (cR, .object "DoorDialect$House")] nN sa A (cCy D cI cC cD AD u hs wy ea ra wd V In o pl ty vc J))) (gQ (nI (fC [1, 3] (vKey G a g).1)) ((cCz D cI cC cD AD (vKey G a g) hs wy ea ra wd V In o pl ty vc J)) A) 0 0 A := by
  refine nv_met (cc := cX6_carryOutKey) (maxL := 3) (ret := (some .int)) (by decide) rfl (Nat.le_of_ble_eq_true rfl) ?_
  intro p0 e0 s m0 args below meth c0 Q hq hargs hnA hpre ls hl
  obtain ⟨hx, hb, hr, hts, hown, hlocks, hml⟩ := hnA
  obtain ⟨hP, hT⟩ := hpre
  have hK := hT.1
  have hown : s.vm.findClass RX6 = some m0.cls := hown
  obtain ⟨hPo, hPh, hPi, hPj⟩ := hP
  have hPo : va_P D vwCl (cOb AD (hs) (wy) (wd) (ea) (ra)) s.heap := hPo
  have hPh : va_P D vwCl (hw cI cD (cAd AD 1) u) s.heap := hPh
  have hPi : va_P D vwCl (iw cI cC (cAd AD 162) (V) (In) (o) (pl) (ty) (vc)) s.heap := hPi
  have hl : lv_has ls 3 [(0, .ref (AD 0)), (1, .ref ((cAd AD 162) 1))] := hl
  have hS : va_S A s.heap s.heap [] := va_S.rf
  have in_X6 : ∀ w ∈ wsX60, w ∈ wsX6_carryOutKey := by decide +kernel
  have fl_10 := hts (.fieldLink RX6 10 "DoorDialect" "house" "LDoorDialect$House;") (by decide +kernel)
  obtain ⟨g_b, g_k, g_0, g_1, g_2, g_e, g_d, g_t, g_y, g_s, g_h⟩ := id hG
  refine lv_aload_n hx hb dX6_carryOutKey_0 rfl (lv_at hl 0 rfl) ?_
  refine lv_aload_n hx hb dX6_carryOutKey_1 rfl (lv_at hl 1 rfl) ?_
  refine lv_iconst (v := nI 0) hx hb dX6_carryOutKey_2 (by decide) ?_
  have hP := hPi
  refine nv_iald (i := 0) hx hb hK.1 hP 1 0 rfl rfl (by first | omega | (simp only [gEndAt]; omega)) (by decide) dX6_carryOutKey_3 ?_
  refine iv_to a h0 ?_
  refine lv_aload_n hx hb dX6_carryOutKey_4 rfl (lv_at hl 1 rfl) ?_
  refine lv_iconst (v := nI 1) hx hb dX6_carryOutKey_5 (by decide) ?_
  have hP := hPi
  refine nv_iald (i := 1) hx hb hK.1 hP 1 0 rfl rfl (by first | omega | (simp only [gEndAt]; omega)) (by decide) dX6_carryOutKey_6 ?_
  refine iv_to g h1 ?_
  refine nv_kG (va_runV (As := [.int a, .int g]) (rest := []) ⟨hx, hb, hml, hown, hts⟩ (c_X6_faultOfKey l (A := cRg AD 0 165) (J := fun H => va_P D vwCl (iw cI cC (cAd AD 162) (V) (In) (o) (pl) (ty) (vc)) H ∧ J H) hR hG hI cRg_self (cOn_IJ hJ) ((a)) ((g))) (cwV 2 hts gX6_carryOutKey_X6_faultOfKey rfl rfl rfl (by decide +kernel) ⟨Nat.le_of_ble_eq_true rfl, Nat.le_of_ble_eq_true rfl⟩) (nt_pVn hT hS (cRg_A hAA (by decide)) ⟨hPo, hPh, hPi, hPj⟩ (va_recv hK.1 hPo (ci := 8) (q0 := 0) rfl rfl)) rfl rfl hl.1 rfl (lv_room (Nat.le_of_ble_eq_true rfl)) dX6_carryOutKey_7 ⟨Nat.zero_le _, Nat.zero_le _⟩) hS (cRg_A hAA (by decide)) (fun H locs hP1 hK1 hS => ?_)
  obtain ⟨hPo, hPh, hPi, hPj⟩ := hP1
  have hPo : va_P D vwCl (cOb AD (hs) (vWy (vKey G ((a)) ((g))) (wy)) (vWd (vKey G ((a)) ((g))) (wd)) (ea) (ra)) H := hPo
  have hfc := fC_ok (n := (vKey G ((a)) ((g))).1) fOk_13 (vKey_n2 _ _ _)
  refine lv_istore_n (lv' := [(2, .int (nI (fC [1, 3] (vKey G ((a)) ((g))).1))), (0, .ref (AD 0)), (1, .ref ((cAd AD 162) 1))]) hx hb dX6_carryOutKey_10 rfl hl (by decide) rfl (fun ls hl => ?_)
  refine lv_iload_n hx hb dX6_carryOutKey_11 rfl (lv_at hl 0 rfl) ?_
  refine nv_if_ne (tgt := 29) hx hb dX6_carryOutKey_12 (by decide) (by omega) (fun c1 => ?_) (fun c1 => ?_)
  · have hn9 : ¬ (vKey G ((a)) ((g))).1 = 0 := fun q => c1 (hfc.2.1.mpr q)
    refine lv_iload_n hx hb dX6_carryOutKey_29 rfl (lv_at hl 0 rfl) ?_
    exact nv_retG hq hx hb hr hlocks (nar_i _) (rfl) hS (⟨u, by rw [(vKey_G hn9).1]; exact hR, hk, hPo, hPh, hPi, hPj⟩) dX6_carryOutKey_30
  · have hv0 : (vKey G ((a)) ((g))).1 = 0 := hfc.2.1.mp c1
    obtain ⟨ak, gk, h_a, h_g, rfl, rfl, h8, hV⟩ := vKey_ok hv0
    have hPo : va_P D vwCl (cOb AD (hs) (vWy (vKey G (((nI ak))) (((nI gk)))) (wy)) (vWd (vKey G (((nI ak))) (((nI gk)))) (wd)) (ea) (ra)) H := hPo
    refine lv_aload_n hx hb dX6_carryOutKey_15 rfl (lv_at hl 1 rfl) ?_
    refine va_get (D := D) (ci := 8) (v := .ref ((cAd AD 1) 0)) (C := RX6) (T := TX6) (N := 11) hx hb hts in_X6 hown hK.1 hPo 0 rfl rfl 0 (by decide) fl_10 (fun _ h9 => h9) rfl dX6_carryOutKey_16 ?_
    refine lv_aload_n hx hb dX6_carryOutKey_19 rfl (lv_at hl 2 rfl) ?_
    refine lv_iconst (v := nI 0) hx hb dX6_carryOutKey_20 (by decide) ?_
    have hP := hPi
    refine nv_iald (i := 0) hx hb hK.1 hP 1 0 rfl rfl (by first | omega | (simp only [gEndAt]; omega)) (by decide) dX6_carryOutKey_21 ?_
    refine nv_to ak h0 ?_
    refine lv_aload_n hx hb dX6_carryOutKey_22 rfl (lv_at hl 2 rfl) ?_
    refine lv_iconst (v := nI 1) hx hb dX6_carryOutKey_23 (by decide) ?_
    have hP := hPi
    refine nv_iald (i := 1) hx hb hK.1 hP 1 0 rfl rfl (by first | omega | (simp only [gEndAt]; omega)) (by decide) dX6_carryOutKey_24 ?_
    refine nv_to gk h1 ?_
    refine nv_kG (va_runV (As := [.int (nI ak), .int (nI gk)]) (rest := []) ⟨hx, hb, hml, hown, hts⟩ (c_X1_addKey l hR hG hk (fun _ => cD_of hI (cAt_hw 1) (by decide)) ak gk (by omega)) (cwV 2 hts gX6_carryOutKey_X1_addKey rfl rfl rfl (by decide +kernel) ⟨Nat.le_of_ble_eq_true rfl, Nat.le_of_ble_eq_true rfl⟩) (nt_pVn hT hS (cRg_A hAA (by decide)) hPh (va_recv hK.1 hPh (ci := 3) (q0 := 0) rfl rfl)) rfl rfl hl.1 rfl (lv_room (Nat.le_of_ble_eq_true rfl)) dX6_carryOutKey_25 ⟨Nat.zero_le _, Nat.zero_le _⟩) hS (cRg_A hAA (by decide)) (fun H locs hP1 hK1 hS => ?_)
    obtain ⟨u, hR, hk, hPh⟩ := hP1
    have hPo := cOn_Ob.keep hI hK1 hPo (Or.inl (by decide)) (by decide) (by decide)
    have hPj := hJ.keep hI hK1 hPj (Or.inr (by decide)) (by decide) (by decide)
    have hPi := cOn_iw.keep hI hK1 hPi (Or.inr (by decide)) (by decide) (by decide)
    refine lv_pop hx hb dX6_carryOutKey_28 rfl ?_
    refine lv_iload_n hx hb dX6_carryOutKey_29 rfl (lv_at hl 0 rfl) ?_
    exact nv_retG hq hx hb hr hlocks (nar_i _) (rfl) hS (⟨u, by rw [hV]; exact hR, hk, hPo, hPh, hPi, hPj⟩) dX6_carryOutKey_30

set_option maxHeartbeats 1000000 in
set_option maxRecDepth 100000 in
theorem c_X6_carryOutKnock (l : Launch) {D : va_G} {cI cC cD cR : ClassId} {sa : sA} {A : Nat → Prop} {AD : Nat → Nat} {u : hS} {G : Nat → Nat} {b hs wy : Nat} {ea ra wd : Int32} {V : Nat → Int32} {In : Nat → Nat} {o pl ty vc : Nat} {J : Heap → Prop} (hR : hRel u G) (hk : hOk u) (hG : gWf b G) (hI : cInj AD) (hAA : ∀ i, i < 165 → A (AD i)) (hJ : cOn AD 15 162 J) (h25 : 25 ≤ b) (hbb : b + 1 < 2 ^ 20) (d g : Int32) (z : Nat) (c : Int32) (hz : z ≤ 1) (h0 : V 0 = d) (h1 : V 1 = g) (h2 : V 2 = nI z) (h3 : V 3 = c) : Met l yX6_carryOutKnock wsX6_carryOutKnock ({ frames := 4, cells := 0, slots := 0, locals := 93 }) (va_Pc [.ref (AD 0), .ref ((cAd AD 162) 1)] (tPre D [(cI, .int), (cC, .char), (cD, .object "DoorDialect$Door"), (cR, .object "DoorDialect$House")] nN sa A (cCy D cI cC cD AD u hs wy ea ra wd V In o pl ty vc J))) (gQ (nI (fC [2, 1, 3] (vKnock G d g z c).1)) ((cCz D cI cC cD AD (vKnock G d g z c) hs wy ea ra wd V In o pl ty vc J)) A) 0 0 A := by
  refine nv_met (cc := cX6_carryOutKnock) (maxL := 3) (ret := (some .int)) (by decide) rfl (Nat.le_of_ble_eq_true rfl) ?_
  intro p0 e0 s m0 args below meth c0 Q hq hargs hnA hpre ls hl
  obtain ⟨hx, hb, hr, hts, hown, hlocks, hml⟩ := hnA
  obtain ⟨hP, hT⟩ := hpre
  have hK := hT.1
  have hown : s.vm.findClass RX6 = some m0.cls := hown
  obtain ⟨hPo, hPh, hPi, hPj⟩ := hP
  have hPo : va_P D vwCl (cOb AD (hs) (wy) (wd) (ea) (ra)) s.heap := hPo
  have hPh : va_P D vwCl (hw cI cD (cAd AD 1) u) s.heap := hPh
  have hPi : va_P D vwCl (iw cI cC (cAd AD 162) (V) (In) (o) (pl) (ty) (vc)) s.heap := hPi
  have hl : lv_has ls 3 [(0, .ref (AD 0)), (1, .ref ((cAd AD 162) 1))] := hl
  have hS : va_S A s.heap s.heap [] := va_S.rf
  have in_X6 : ∀ w ∈ wsX60, w ∈ wsX6_carryOutKnock := by decide +kernel
  have fl_10 := hts (.fieldLink RX6 10 "DoorDialect" "house" "LDoorDialect$House;") (by decide +kernel)
  obtain ⟨g_b, g_k, g_0, g_1, g_2, g_e, g_d, g_t, g_y, g_s, g_h⟩ := id hG
  refine lv_aload_n hx hb dX6_carryOutKnock_0 rfl (lv_at hl 0 rfl) ?_
  refine lv_aload_n hx hb dX6_carryOutKnock_1 rfl (lv_at hl 1 rfl) ?_
  refine lv_iconst (v := nI 0) hx hb dX6_carryOutKnock_2 (by decide) ?_
  have hP := hPi
  refine nv_iald (i := 0) hx hb hK.1 hP 1 0 rfl rfl (by first | omega | (simp only [gEndAt]; omega)) (by decide) dX6_carryOutKnock_3 ?_
  refine iv_to d h0 ?_
  refine lv_aload_n hx hb dX6_carryOutKnock_4 rfl (lv_at hl 1 rfl) ?_
  refine lv_iconst (v := nI 1) hx hb dX6_carryOutKnock_5 (by decide) ?_
  have hP := hPi
  refine nv_iald (i := 1) hx hb hK.1 hP 1 0 rfl rfl (by first | omega | (simp only [gEndAt]; omega)) (by decide) dX6_carryOutKnock_6 ?_
  refine iv_to g h1 ?_
  refine lv_aload_n hx hb dX6_carryOutKnock_7 rfl (lv_at hl 1 rfl) ?_
  refine lv_iconst (v := nI 3) hx hb dX6_carryOutKnock_8 (by decide) ?_
  have hP := hPi
  refine nv_iald (i := 3) hx hb hK.1 hP 1 0 rfl rfl (by first | omega | (simp only [gEndAt]; omega)) (by decide) dX6_carryOutKnock_9 ?_
  refine iv_to c h3 ?_
  refine nv_kG (va_runV (As := [.int d, .int g, .int c]) (rest := []) ⟨hx, hb, hml, hown, hts⟩ (c_X6_faultOfKnock l (A := cRg AD 0 165) (J := fun H => va_P D vwCl (iw cI cC (cAd AD 162) (V) (In) (o) (pl) (ty) (vc)) H ∧ J H) hR hG hI cRg_self (cOn_IJ hJ) ((d)) ((g)) z ((c))) (cwV 3 hts gX6_carryOutKnock_X6_faultOfKnock rfl rfl rfl (by decide +kernel) ⟨Nat.le_of_ble_eq_true rfl, Nat.le_of_ble_eq_true rfl⟩) (nt_pVn hT hS (cRg_A hAA (by decide)) ⟨hPo, hPh, hPi, hPj⟩ (va_recv hK.1 hPo (ci := 8) (q0 := 0) rfl rfl)) rfl rfl hl.1 rfl (lv_room (Nat.le_of_ble_eq_true rfl)) dX6_carryOutKnock_10 ⟨Nat.zero_le _, Nat.zero_le _⟩) hS (cRg_A hAA (by decide)) (fun H locs hP1 hK1 hS => ?_)
  obtain ⟨hPo, hPh, hPi, hPj⟩ := hP1
  have hPo : va_P D vwCl (cOb AD (hs) (vWy (vKnock G ((d)) ((g)) z ((c))) (wy)) (vWd (vKnock G ((d)) ((g)) z ((c))) (wd)) (ea) (ra)) H := hPo
  have hfc := fC_ok (n := (vKnock G ((d)) ((g)) z ((c))).1) fOk_213 (vKnock_n _ _ _ _ _)
  refine lv_istore_n (lv' := [(2, .int (nI (fC [2, 1, 3] (vKnock G ((d)) ((g)) z ((c))).1))), (0, .ref (AD 0)), (1, .ref ((cAd AD 162) 1))]) hx hb dX6_carryOutKnock_13 rfl hl (by decide) rfl (fun ls hl => ?_)
  refine lv_iload_n hx hb dX6_carryOutKnock_14 rfl (lv_at hl 0 rfl) ?_
  refine nv_if_ne (tgt := 38) hx hb dX6_carryOutKnock_15 (by decide) (by omega) (fun c1 => ?_) (fun c1 => ?_)
  · have hn9 : ¬ (vKnock G ((d)) ((g)) z ((c))).1 = 0 := fun q => c1 (hfc.2.1.mpr q)
    refine lv_iload_n hx hb dX6_carryOutKnock_38 rfl (lv_at hl 0 rfl) ?_
    exact nv_retG hq hx hb hr hlocks (nar_i _) (rfl) hS (⟨u, by rw [(vKnock_G hn9).1]; exact hR, hk, hPo, hPh, hPi, hPj⟩) dX6_carryOutKnock_39
  · have hv0 : (vKnock G ((d)) ((g)) z ((c))).1 = 0 := hfc.2.1.mp c1
    obtain ⟨dk, gk, ck, h_d, h_g, h_c, rfl, rfl, rfl, _, hV⟩ := vKnock_ok hv0 (by omega)
    have hPo : va_P D vwCl (cOb AD (hs) (vWy (vKnock G (((nI dk))) (((nI gk))) z (((nI ck)))) (wy)) (vWd (vKnock G (((nI dk))) (((nI gk))) z (((nI ck)))) (wd)) (ea) (ra)) H := hPo
    refine lv_aload_n hx hb dX6_carryOutKnock_18 rfl (lv_at hl 1 rfl) ?_
    refine va_get (D := D) (ci := 8) (v := .ref ((cAd AD 1) 0)) (C := RX6) (T := TX6) (N := 11) hx hb hts in_X6 hown hK.1 hPo 0 rfl rfl 0 (by decide) fl_10 (fun _ h9 => h9) rfl dX6_carryOutKnock_19 ?_
    refine lv_aload_n hx hb dX6_carryOutKnock_22 rfl (lv_at hl 2 rfl) ?_
    refine lv_iconst (v := nI 0) hx hb dX6_carryOutKnock_23 (by decide) ?_
    have hP := hPi
    refine nv_iald (i := 0) hx hb hK.1 hP 1 0 rfl rfl (by first | omega | (simp only [gEndAt]; omega)) (by decide) dX6_carryOutKnock_24 ?_
    refine nv_to dk h0 ?_
    refine lv_aload_n hx hb dX6_carryOutKnock_25 rfl (lv_at hl 2 rfl) ?_
    refine lv_iconst (v := nI 1) hx hb dX6_carryOutKnock_26 (by decide) ?_
    have hP := hPi
    refine nv_iald (i := 1) hx hb hK.1 hP 1 0 rfl rfl (by first | omega | (simp only [gEndAt]; omega)) (by decide) dX6_carryOutKnock_27 ?_
    refine nv_to gk h1 ?_
    refine lv_aload_n hx hb dX6_carryOutKnock_28 rfl (lv_at hl 2 rfl) ?_
    refine lv_iconst (v := nI 2) hx hb dX6_carryOutKnock_29 (by decide) ?_
    have hP := hPi
    refine nv_iald (i := 2) hx hb hK.1 hP 1 0 rfl rfl (by first | omega | (simp only [gEndAt]; omega)) (by decide) dX6_carryOutKnock_30 ?_
    refine nv_to z h2 ?_
    refine lv_aload_n hx hb dX6_carryOutKnock_31 rfl (lv_at hl 2 rfl) ?_
    refine lv_iconst (v := nI 3) hx hb dX6_carryOutKnock_32 (by decide) ?_
    have hP := hPi
    refine nv_iald (i := 3) hx hb hK.1 hP 1 0 rfl rfl (by first | omega | (simp only [gEndAt]; omega)) (by decide) dX6_carryOutKnock_33 ?_
    refine nv_to ck h3 ?_
    refine nv_kG (va_runV (As := [.int (nI dk), .int (nI gk), .int (nI z), .int (nI ck)]) (rest := []) ⟨hx, hb, hml, hown, hts⟩ (c_X1_hearKnock l hR hG hk (fun _ => cD_of hI (cAt_hw 1) (by decide)) dk gk z ck (by omega) (by omega) (by omega) (by omega)) (cwV 4 hts gX6_carryOutKnock_X1_hearKnock rfl rfl rfl (by decide +kernel) ⟨Nat.le_of_ble_eq_true rfl, Nat.le_of_ble_eq_true rfl⟩) (nt_pVn hT hS (cRg_A hAA (by decide)) hPh (va_recv hK.1 hPh (ci := 3) (q0 := 0) rfl rfl)) rfl rfl hl.1 rfl (lv_room (Nat.le_of_ble_eq_true rfl)) dX6_carryOutKnock_34 ⟨Nat.zero_le _, Nat.zero_le _⟩) hS (cRg_A hAA (by decide)) (fun H locs hP1 hK1 hS => ?_)
    obtain ⟨u, hR, hk, hPh⟩ := hP1
    have hPo := cOn_Ob.keep hI hK1 hPo (Or.inl (by decide)) (by decide) (by decide)
    have hPj := hJ.keep hI hK1 hPj (Or.inr (by decide)) (by decide) (by decide)
    have hPi := cOn_iw.keep hI hK1 hPi (Or.inr (by decide)) (by decide) (by decide)
    refine lv_pop hx hb dX6_carryOutKnock_37 rfl ?_
    refine lv_iload_n hx hb dX6_carryOutKnock_38 rfl (lv_at hl 0 rfl) ?_
    exact nv_retG hq hx hb hr hlocks (nar_i _) (rfl) hS (⟨u, by rw [hV]; exact hR, hk, hPo, hPh, hPi, hPj⟩) dX6_carryOutKnock_39

set_option maxHeartbeats 1000000 in
set_option maxRecDepth 100000 in
theorem c_X6_carryOutShut (l : Launch) {D : va_G} {cI cC cD cR : ClassId} {sa : sA} {A : Nat → Prop} {AD : Nat → Nat} {u : hS} {G : Nat → Nat} {b hs wy : Nat} {ea ra wd : Int32} {V : Nat → Int32} {In : Nat → Nat} {o pl ty vc : Nat} {J : Heap → Prop} (hR : hRel u G) (hk : hOk u) (hG : gWf b G) (hI : cInj AD) (hAA : ∀ i, i < 165 → A (AD i)) (hJ : cOn AD 15 162 J) (h25 : 25 ≤ b) (hbb : b + 1 < 2 ^ 20) (d : Int32) (h0 : V 0 = d) : Met l yX6_carryOutShut wsX6_carryOutShut ({ frames := 3, cells := 0, slots := 0, locals := 63 }) (va_Pc [.ref (AD 0), .ref ((cAd AD 162) 1)] (tPre D [(cI, .int), (cC, .char), (cD, .object "DoorDialect$Door"), (cR, .object "DoorDialect$House")] nN sa A (cCy D cI cC cD AD u hs wy ea ra wd V In o pl ty vc J))) (gQ (nI (fC [2, 3] (vShut G d).1)) ((cCz D cI cC cD AD (vShut G d) hs wy ea ra wd V In o pl ty vc J)) A) 0 0 A := by
  refine nv_met (cc := cX6_carryOutShut) (maxL := 3) (ret := (some .int)) (by decide) rfl (Nat.le_of_ble_eq_true rfl) ?_
  intro p0 e0 s m0 args below meth c0 Q hq hargs hnA hpre ls hl
  obtain ⟨hx, hb, hr, hts, hown, hlocks, hml⟩ := hnA
  obtain ⟨hP, hT⟩ := hpre
  have hK := hT.1
  have hown : s.vm.findClass RX6 = some m0.cls := hown
  obtain ⟨hPo, hPh, hPi, hPj⟩ := hP
  have hPo : va_P D vwCl (cOb AD (hs) (wy) (wd) (ea) (ra)) s.heap := hPo
  have hPh : va_P D vwCl (hw cI cD (cAd AD 1) u) s.heap := hPh
  have hPi : va_P D vwCl (iw cI cC (cAd AD 162) (V) (In) (o) (pl) (ty) (vc)) s.heap := hPi
  have hl : lv_has ls 3 [(0, .ref (AD 0)), (1, .ref ((cAd AD 162) 1))] := hl
  have hS : va_S A s.heap s.heap [] := va_S.rf
  have in_X6 : ∀ w ∈ wsX60, w ∈ wsX6_carryOutShut := by decide +kernel
  have fl_10 := hts (.fieldLink RX6 10 "DoorDialect" "house" "LDoorDialect$House;") (by decide +kernel)
  obtain ⟨g_b, g_k, g_0, g_1, g_2, g_e, g_d, g_t, g_y, g_s, g_h⟩ := id hG
  refine lv_aload_n hx hb dX6_carryOutShut_0 rfl (lv_at hl 0 rfl) ?_
  refine lv_aload_n hx hb dX6_carryOutShut_1 rfl (lv_at hl 1 rfl) ?_
  refine lv_iconst (v := nI 0) hx hb dX6_carryOutShut_2 (by decide) ?_
  have hP := hPi
  refine nv_iald (i := 0) hx hb hK.1 hP 1 0 rfl rfl (by first | omega | (simp only [gEndAt]; omega)) (by decide) dX6_carryOutShut_3 ?_
  refine iv_to d h0 ?_
  refine nv_kG (va_runV (As := [.int d]) (rest := []) ⟨hx, hb, hml, hown, hts⟩ (c_X6_faultOfShut l (A := cRg AD 0 165) (J := fun H => va_P D vwCl (iw cI cC (cAd AD 162) (V) (In) (o) (pl) (ty) (vc)) H ∧ J H) hR hG hI cRg_self (cOn_IJ hJ) ((d))) (cwV 1 hts gX6_carryOutShut_X6_faultOfShut rfl rfl rfl (by decide +kernel) ⟨Nat.le_of_ble_eq_true rfl, Nat.le_of_ble_eq_true rfl⟩) (nt_pVn hT hS (cRg_A hAA (by decide)) ⟨hPo, hPh, hPi, hPj⟩ (va_recv hK.1 hPo (ci := 8) (q0 := 0) rfl rfl)) rfl rfl hl.1 rfl (lv_room (Nat.le_of_ble_eq_true rfl)) dX6_carryOutShut_4 ⟨Nat.zero_le _, Nat.zero_le _⟩) hS (cRg_A hAA (by decide)) (fun H locs hP1 hK1 hS => ?_)
  obtain ⟨hPo, hPh, hPi, hPj⟩ := hP1
  have hPo : va_P D vwCl (cOb AD (hs) (vWy (vShut G ((d))) (wy)) (vWd (vShut G ((d))) (wd)) (ea) (ra)) H := hPo
  have hfc := fC_ok (n := (vShut G ((d))).1) fOk_23 (vShut_n2 _ _)
  refine lv_istore_n (lv' := [(2, .int (nI (fC [2, 3] (vShut G ((d))).1))), (0, .ref (AD 0)), (1, .ref ((cAd AD 162) 1))]) hx hb dX6_carryOutShut_7 rfl hl (by decide) rfl (fun ls hl => ?_)
  refine lv_iload_n hx hb dX6_carryOutShut_8 rfl (lv_at hl 0 rfl) ?_
  refine nv_if_ne (tgt := 23) hx hb dX6_carryOutShut_9 (by decide) (by omega) (fun c1 => ?_) (fun c1 => ?_)
  · have hn9 : ¬ (vShut G ((d))).1 = 0 := fun q => c1 (hfc.2.1.mpr q)
    refine lv_iload_n hx hb dX6_carryOutShut_23 rfl (lv_at hl 0 rfl) ?_
    exact nv_retG hq hx hb hr hlocks (nar_i _) (rfl) hS (⟨u, by rw [(vShut_G hn9).1]; exact hR, hk, hPo, hPh, hPi, hPj⟩) dX6_carryOutShut_24
  · have hv0 : (vShut G ((d))).1 = 0 := hfc.2.1.mp c1
    obtain ⟨dk, h_d, rfl, _, hV⟩ := vShut_ok hv0 (by omega)
    have hPo : va_P D vwCl (cOb AD (hs) (vWy (vShut G (((nI dk)))) (wy)) (vWd (vShut G (((nI dk)))) (wd)) (ea) (ra)) H := hPo
    refine lv_aload_n hx hb dX6_carryOutShut_12 rfl (lv_at hl 1 rfl) ?_
    refine va_get (D := D) (ci := 8) (v := .ref ((cAd AD 1) 0)) (C := RX6) (T := TX6) (N := 11) hx hb hts in_X6 hown hK.1 hPo 0 rfl rfl 0 (by decide) fl_10 (fun _ h9 => h9) rfl dX6_carryOutShut_13 ?_
    refine lv_aload_n hx hb dX6_carryOutShut_16 rfl (lv_at hl 2 rfl) ?_
    refine lv_iconst (v := nI 0) hx hb dX6_carryOutShut_17 (by decide) ?_
    have hP := hPi
    refine nv_iald (i := 0) hx hb hK.1 hP 1 0 rfl rfl (by first | omega | (simp only [gEndAt]; omega)) (by decide) dX6_carryOutShut_18 ?_
    refine nv_to dk h0 ?_
    have hG2 : gWf (b + 1) (va_up G (80 + dk) 0) := by
      have h9 := vWf_vShut (G := G) (d := nI dk) hG h25 hbb
      rw [hV] at h9; exact h9
    have hGm := gWf_mono hG (Nat.le_succ b) hbb
    refine nv_kG (va_runV (As := [.int (nI dk)]) (rest := []) ⟨hx, hb, hml, hown, hts⟩ (c_X1_shutDoor l hR hGm hk (fun _ => cD_of hI (cAt_hw 1) (by decide)) dk (by omega) hG2) (cwV 1 hts gX6_carryOutShut_X1_shutDoor rfl rfl rfl (by decide +kernel) ⟨Nat.le_of_ble_eq_true rfl, Nat.le_of_ble_eq_true rfl⟩) (nt_pVn hT hS (cRg_A hAA (by decide)) hPh (va_recv hK.1 hPh (ci := 3) (q0 := 0) rfl rfl)) rfl rfl hl.1 rfl (lv_room (Nat.le_of_ble_eq_true rfl)) dX6_carryOutShut_19 ⟨Nat.zero_le _, Nat.zero_le _⟩) hS (cRg_A hAA (by decide)) (fun H locs hP1 hK1 hS => ?_)
    obtain ⟨u, hR, hk, hPh⟩ := hP1
    have hPo := cOn_Ob.keep hI hK1 hPo (Or.inl (by decide)) (by decide) (by decide)
    have hPj := hJ.keep hI hK1 hPj (Or.inr (by decide)) (by decide) (by decide)
    have hPi := cOn_iw.keep hI hK1 hPi (Or.inr (by decide)) (by decide) (by decide)
    refine lv_pop hx hb dX6_carryOutShut_22 rfl ?_
    refine lv_iload_n hx hb dX6_carryOutShut_23 rfl (lv_at hl 0 rfl) ?_
    exact nv_retG hq hx hb hr hlocks (nar_i _) (rfl) hS (⟨u, by rw [hV]; exact hR, hk, hPo, hPh, hPi, hPj⟩) dX6_carryOutShut_24

set_option maxHeartbeats 1000000 in
set_option maxRecDepth 100000 in
theorem c_X6_carryOutFree (l : Launch) {D : va_G} {cI cC cD cR : ClassId} {sa : sA} {A : Nat → Prop} {AD : Nat → Nat} {u : hS} {G : Nat → Nat} {b hs wy : Nat} {ea ra wd : Int32} {V : Nat → Int32} {In : Nat → Nat} {o pl ty vc : Nat} {J : Heap → Prop} (hR : hRel u G) (hk : hOk u) (hG : gWf b G) (hI : cInj AD) (hAA : ∀ i, i < 165 → A (AD i)) (hJ : cOn AD 15 162 J) (h25 : 25 ≤ b) (hbb : b + 1 < 2 ^ 20) (k d : Int32) (h0 : V 0 = k) (h1 : V 1 = d) : Met l yX6_carryOutFree wsX6_carryOutFree ({ frames := 3, cells := 0, slots := 0, locals := 65 }) (va_Pc [.ref (AD 0), .ref ((cAd AD 162) 1)] (tPre D [(cI, .int), (cC, .char), (cD, .object "DoorDialect$Door"), (cR, .object "DoorDialect$House")] nN sa A (cCy D cI cC cD AD u hs wy ea ra wd V In o pl ty vc J))) (gQ (nI (fC [2, 3] (vFree G k d).1)) ((cCz D cI cC cD AD (vFree G k d) hs wy ea ra wd V In o pl ty vc J)) A) 0 0 A := by
  refine nv_met (cc := cX6_carryOutFree) (maxL := 3) (ret := (some .int)) (by decide) rfl (Nat.le_of_ble_eq_true rfl) ?_
  intro p0 e0 s m0 args below meth c0 Q hq hargs hnA hpre ls hl
  obtain ⟨hx, hb, hr, hts, hown, hlocks, hml⟩ := hnA
  obtain ⟨hP, hT⟩ := hpre
  have hK := hT.1
  have hown : s.vm.findClass RX6 = some m0.cls := hown
  obtain ⟨hPo, hPh, hPi, hPj⟩ := hP
  have hPo : va_P D vwCl (cOb AD (hs) (wy) (wd) (ea) (ra)) s.heap := hPo
  have hPh : va_P D vwCl (hw cI cD (cAd AD 1) u) s.heap := hPh
  have hPi : va_P D vwCl (iw cI cC (cAd AD 162) (V) (In) (o) (pl) (ty) (vc)) s.heap := hPi
  have hl : lv_has ls 3 [(0, .ref (AD 0)), (1, .ref ((cAd AD 162) 1))] := hl
  have hS : va_S A s.heap s.heap [] := va_S.rf
  have in_X6 : ∀ w ∈ wsX60, w ∈ wsX6_carryOutFree := by decide +kernel
  have fl_10 := hts (.fieldLink RX6 10 "DoorDialect" "house" "LDoorDialect$House;") (by decide +kernel)
  obtain ⟨g_b, g_k, g_0, g_1, g_2, g_e, g_d, g_t, g_y, g_s, g_h⟩ := id hG
  refine lv_aload_n hx hb dX6_carryOutFree_0 rfl (lv_at hl 0 rfl) ?_
  refine lv_aload_n hx hb dX6_carryOutFree_1 rfl (lv_at hl 1 rfl) ?_
  refine lv_iconst (v := nI 0) hx hb dX6_carryOutFree_2 (by decide) ?_
  have hP := hPi
  refine nv_iald (i := 0) hx hb hK.1 hP 1 0 rfl rfl (by first | omega | (simp only [gEndAt]; omega)) (by decide) dX6_carryOutFree_3 ?_
  refine iv_to k h0 ?_
  refine lv_aload_n hx hb dX6_carryOutFree_4 rfl (lv_at hl 1 rfl) ?_
  refine lv_iconst (v := nI 1) hx hb dX6_carryOutFree_5 (by decide) ?_
  have hP := hPi
  refine nv_iald (i := 1) hx hb hK.1 hP 1 0 rfl rfl (by first | omega | (simp only [gEndAt]; omega)) (by decide) dX6_carryOutFree_6 ?_
  refine iv_to d h1 ?_
  refine nv_kG (va_runV (As := [.int k, .int d]) (rest := []) ⟨hx, hb, hml, hown, hts⟩ (c_X6_faultOfFree l (A := cRg AD 0 165) (J := fun H => va_P D vwCl (iw cI cC (cAd AD 162) (V) (In) (o) (pl) (ty) (vc)) H ∧ J H) hR hG hI cRg_self (cOn_IJ hJ) ((k)) ((d))) (cwV 2 hts gX6_carryOutFree_X6_faultOfFree rfl rfl rfl (by decide +kernel) ⟨Nat.le_of_ble_eq_true rfl, Nat.le_of_ble_eq_true rfl⟩) (nt_pVn hT hS (cRg_A hAA (by decide)) ⟨hPo, hPh, hPi, hPj⟩ (va_recv hK.1 hPo (ci := 8) (q0 := 0) rfl rfl)) rfl rfl hl.1 rfl (lv_room (Nat.le_of_ble_eq_true rfl)) dX6_carryOutFree_7 ⟨Nat.zero_le _, Nat.zero_le _⟩) hS (cRg_A hAA (by decide)) (fun H locs hP1 hK1 hS => ?_)
  obtain ⟨hPo, hPh, hPi, hPj⟩ := hP1
  have hPo : va_P D vwCl (cOb AD (hs) (vWy (vFree G ((k)) ((d))) (wy)) (vWd (vFree G ((k)) ((d))) (wd)) (ea) (ra)) H := hPo
  have hfc := fC_ok (n := (vFree G ((k)) ((d))).1) fOk_23 (vFree_n2 _ _ _)
  refine lv_istore_n (lv' := [(2, .int (nI (fC [2, 3] (vFree G ((k)) ((d))).1))), (0, .ref (AD 0)), (1, .ref ((cAd AD 162) 1))]) hx hb dX6_carryOutFree_10 rfl hl (by decide) rfl (fun ls hl => ?_)
  refine lv_iload_n hx hb dX6_carryOutFree_11 rfl (lv_at hl 0 rfl) ?_
  refine nv_if_ne (tgt := 26) hx hb dX6_carryOutFree_12 (by decide) (by omega) (fun c1 => ?_) (fun c1 => ?_)
  · have hn9 : ¬ (vFree G ((k)) ((d))).1 = 0 := fun q => c1 (hfc.2.1.mpr q)
    refine lv_iload_n hx hb dX6_carryOutFree_26 rfl (lv_at hl 0 rfl) ?_
    exact nv_retG hq hx hb hr hlocks (nar_i _) (rfl) hS (⟨u, by rw [(vFree_G hn9).1]; exact hR, hk, hPo, hPh, hPi, hPj⟩) dX6_carryOutFree_27
  · have hv0 : (vFree G ((k)) ((d))).1 = 0 := hfc.2.1.mp c1
    obtain ⟨kk, dk, h_k, h_d, rfl, rfl, _, hV⟩ := vFree_ok hv0 (by omega) (by omega)
    have hPo : va_P D vwCl (cOb AD (hs) (vWy (vFree G (((nI kk))) (((nI dk)))) (wy)) (vWd (vFree G (((nI kk))) (((nI dk)))) (wd)) (ea) (ra)) H := hPo
    refine lv_aload_n hx hb dX6_carryOutFree_15 rfl (lv_at hl 1 rfl) ?_
    refine va_get (D := D) (ci := 8) (v := .ref ((cAd AD 1) 0)) (C := RX6) (T := TX6) (N := 11) hx hb hts in_X6 hown hK.1 hPo 0 rfl rfl 0 (by decide) fl_10 (fun _ h9 => h9) rfl dX6_carryOutFree_16 ?_
    refine lv_aload_n hx hb dX6_carryOutFree_19 rfl (lv_at hl 2 rfl) ?_
    refine lv_iconst (v := nI 1) hx hb dX6_carryOutFree_20 (by decide) ?_
    have hP := hPi
    refine nv_iald (i := 1) hx hb hK.1 hP 1 0 rfl rfl (by first | omega | (simp only [gEndAt]; omega)) (by decide) dX6_carryOutFree_21 ?_
    refine nv_to dk h1 ?_
    have hG2 : gWf (b + 1) (gFree G dk) := by
      have h9 := vWf_vFree (G := G) (k := nI kk) (d := nI dk) hG h25 hbb
      rw [hV] at h9; exact h9
    have hGm := gWf_mono hG (Nat.le_succ b) hbb
    refine nv_kG (va_runV (As := [.int (nI dk)]) (rest := []) ⟨hx, hb, hml, hown, hts⟩ (c_X1_freeDoor l hR hGm hk (fun _ => cD_of hI (cAt_hw 1) (by decide)) dk (by omega) hG2) (cwV 1 hts gX6_carryOutFree_X1_freeDoor rfl rfl rfl (by decide +kernel) ⟨Nat.le_of_ble_eq_true rfl, Nat.le_of_ble_eq_true rfl⟩) (nt_pVn hT hS (cRg_A hAA (by decide)) hPh (va_recv hK.1 hPh (ci := 3) (q0 := 0) rfl rfl)) rfl rfl hl.1 rfl (lv_room (Nat.le_of_ble_eq_true rfl)) dX6_carryOutFree_22 ⟨Nat.zero_le _, Nat.zero_le _⟩) hS (cRg_A hAA (by decide)) (fun H locs hP1 hK1 hS => ?_)
    obtain ⟨u, hR, hk, hPh⟩ := hP1
    have hPo := cOn_Ob.keep hI hK1 hPo (Or.inl (by decide)) (by decide) (by decide)
    have hPj := hJ.keep hI hK1 hPj (Or.inr (by decide)) (by decide) (by decide)
    have hPi := cOn_iw.keep hI hK1 hPi (Or.inr (by decide)) (by decide) (by decide)
    refine lv_pop hx hb dX6_carryOutFree_25 rfl ?_
    refine lv_iload_n hx hb dX6_carryOutFree_26 rfl (lv_at hl 0 rfl) ?_
    exact nv_retG hq hx hb hr hlocks (nar_i _) (rfl) hS (⟨u, by rw [hV]; exact hR, hk, hPo, hPh, hPi, hPj⟩) dX6_carryOutFree_27

set_option maxHeartbeats 1000000 in
set_option maxRecDepth 100000 in
theorem c_X6_carryOut (l : Launch) {D : va_G} {cI cC cD cR : ClassId} {sa : sA} {A : Nat → Prop} {AD : Nat → Nat} {u : hS} {G : Nat → Nat} {b hs wy : Nat} {ea ra wd : Int32} {V : Nat → Int32} {In : Nat → Nat} {pl ty vc : Nat} {J : Heap → Prop} (hR : hRel u G) (hk : hOk u) (hG : gWf b G) (hI : cInj AD) (hAA : ∀ i, i < 165 → A (AD i)) (hJ : cOn AD 15 162 J) (h25 : 25 ≤ b) (hbb : b + 1 < 2 ^ 20) (q : Nat) (hq : q < 9) (T : Nat → Int32) (hV : ∀ i, i < nv9 (pat q) → V i = T (1 + i)) (hTz : (q = 0 ∨ q = 4 ∨ q = 6) → T 3 = nI (tN (T 3)) ∧ tN (T 3) ≤ 1) : Met l yX6_carryOut wsX6_carryOut ({ frames := 5, cells := 0, slots := 0, locals := 115 }) (va_Pc [.ref (AD 0)] (tPre D [(cI, .int), (cC, .char), (cD, .object "DoorDialect$Door"), (cR, .object "DoorDialect$House")] nN sa A (cCy D cI cC cD AD u hs wy ea ra wd V In q pl ty vc J))) (gQ (nI (fC (flO q) (vOrd q (T 1) (T 2) (T 3) (T 4) (T 5) G).1)) ((cCz D cI cC cD AD (vOrd q (T 1) (T 2) (T 3) (T 4) (T 5) G) hs wy ea ra wd V In q pl ty vc J)) A) 0 0 A := by
  refine nv_met (cc := cX6_carryOut) (maxL := 2) (ret := (some .int)) (by decide) rfl (Nat.le_of_ble_eq_true rfl) ?_
  intro p0 e0 s m0 args below meth c0 Q hq hargs hnA hpre ls hl
  obtain ⟨hx, hb, hr, hts, hown, hlocks, hml⟩ := hnA
  obtain ⟨hP, hT⟩ := hpre
  have hK := hT.1
  have hown : s.vm.findClass RX6 = some m0.cls := hown
  obtain ⟨hPo, hPh, hPi, hPj⟩ := hP
  have hPo : va_P D vwCl (cOb AD (hs) (wy) (wd) (ea) (ra)) s.heap := hPo
  have hPh : va_P D vwCl (hw cI cD (cAd AD 1) u) s.heap := hPh
  have hPi : va_P D vwCl (iw cI cC (cAd AD 162) (V) (In) (q) (pl) (ty) (vc)) s.heap := hPi
  have hl : lv_has ls 2 [(0, .ref (AD 0))] := hl
  have hS : va_S A s.heap s.heap [] := va_S.rf
  have in_X2 : ∀ w ∈ wsX20, w ∈ wsX6_carryOut := by decide +kernel
  have in_X6 : ∀ w ∈ wsX60, w ∈ wsX6_carryOut := by decide +kernel
  have fl_43 := hts (.fieldLink RX6 43 "DoorDialect" "input" "LDoorDialect$Input;") (by decide +kernel)
  have fl_447 := hts (.fieldLink RX6 447 "DoorDialect$Input" "values" "[I") (by decide +kernel)
  have fl_450 := hts (.fieldLink RX6 450 "DoorDialect$Input" "order" "I") (by decide +kernel)
  obtain ⟨g_b, g_k, g_0, g_1, g_2, g_e, g_d, g_t, g_y, g_s, g_h⟩ := id hG
  rcases (show q = 0 ∨ q = 1 ∨ q = 2 ∨ q = 3 ∨ q = 4 ∨ q = 5 ∨ q = 6 ∨ q = 7 ∨ q = 8 by omega) with rfl | rfl | rfl | rfl | rfl | rfl | rfl | rfl | rfl
  · refine lv_aload_n hx hb dX6_carryOut_0 rfl (lv_at hl 0 rfl) ?_
    refine va_get (D := D) (ci := 8) (v := .ref ((cAd AD 162) 0)) (C := RX6) (T := TX6) (N := 11) hx hb hts in_X6 hown hK.1 hPo 0 rfl rfl 5 (by decide) fl_43 (fun _ h9 => h9) rfl dX6_carryOut_1 ?_
    have hP := hPi
    refine va_get (D := D) (ci := 4) (v := .ref ((cAd AD 162) 1)) (C := RX2) (T := TX2) (N := 6) hx hb hts in_X2 hown hK.1 hP 0 rfl rfl 0 (by decide) fl_447 (fun _ h9 => h9) rfl dX6_carryOut_4 ?_
    refine lv_astore_n (lv' := [(1, .ref ((cAd AD 162) 1)), (0, .ref (AD 0))]) hx hb dX6_carryOut_7 rfl hl (by decide) rfl (fun ls hl => ?_)
    refine lv_aload_n hx hb dX6_carryOut_8 rfl (lv_at hl 1 rfl) ?_
    refine va_get (D := D) (ci := 8) (v := .ref ((cAd AD 162) 0)) (C := RX6) (T := TX6) (N := 11) hx hb hts in_X6 hown hK.1 hPo 0 rfl rfl 5 (by decide) fl_43 (fun _ h9 => h9) rfl dX6_carryOut_9 ?_
    have hP := hPi
    refine va_get (D := D) (ci := 4) (v := .int (nI 0)) (C := RX2) (T := TX2) (N := 6) hx hb hts in_X2 hown hK.1 hP 0 rfl rfl 1 (by decide) fl_450 (fun _ h9 => h9) rfl dX6_carryOut_12 ?_
    refine lv_tableIn (off := 49) (tgt := 64) hx hb dX6_carryOut_15 (by decide +kernel) (by decide +kernel) rfl (by decide) ?_
    refine lv_aload_n hx hb dX6_carryOut_64 rfl (lv_at hl 1 rfl) ?_
    refine lv_aload_n hx hb dX6_carryOut_65 rfl (lv_at hl 0 rfl) ?_
    refine nv_kG (va_runV (As := [.ref ((cAd AD 162) 1)]) (rest := []) ⟨hx, hb, hml, hown, hts⟩ (c_X6_carryOutDoor l (A := cRg AD 0 165) hR hk hG hI cRg_self hJ h25 hbb (T 1) (T 2) (tN (T 3)) (T 4) (T 5) (hTz (by decide)).2 (hV 0 (by decide)) (hV 1 (by decide)) ((hV 2 (by decide)).trans (hTz (by decide)).1) (hV 3 (by decide)) (hV 4 (by decide))) (cwV 1 hts gX6_carryOut_X6_carryOutDoor rfl rfl rfl (by decide +kernel) ⟨Nat.le_of_ble_eq_true rfl, Nat.le_of_ble_eq_true rfl⟩) (nt_pVn hT hS (cRg_A hAA (by decide)) ⟨hPo, hPh, hPi, hPj⟩ (va_recv hK.1 hPo (ci := 8) (q0 := 0) rfl rfl)) rfl rfl hl.1 rfl (lv_room (Nat.le_of_ble_eq_true rfl)) dX6_carryOut_66 ⟨Nat.zero_le _, Nat.zero_le _⟩) hS (cRg_A hAA (by decide)) (fun H locs hP1 hK1 hS => ?_)
    obtain ⟨u, hR, hk, hPo, hPh, hPi, hPj⟩ := hP1
    exact nv_retG hq hx hb hr hlocks (nar_i _) (rfl) hS (⟨u, hR, hk, hPo, hPh, hPi, hPj⟩) dX6_carryOut_69
  · refine lv_aload_n hx hb dX6_carryOut_0 rfl (lv_at hl 0 rfl) ?_
    refine va_get (D := D) (ci := 8) (v := .ref ((cAd AD 162) 0)) (C := RX6) (T := TX6) (N := 11) hx hb hts in_X6 hown hK.1 hPo 0 rfl rfl 5 (by decide) fl_43 (fun _ h9 => h9) rfl dX6_carryOut_1 ?_
    have hP := hPi
    refine va_get (D := D) (ci := 4) (v := .ref ((cAd AD 162) 1)) (C := RX2) (T := TX2) (N := 6) hx hb hts in_X2 hown hK.1 hP 0 rfl rfl 0 (by decide) fl_447 (fun _ h9 => h9) rfl dX6_carryOut_4 ?_
    refine lv_astore_n (lv' := [(1, .ref ((cAd AD 162) 1)), (0, .ref (AD 0))]) hx hb dX6_carryOut_7 rfl hl (by decide) rfl (fun ls hl => ?_)
    refine lv_aload_n hx hb dX6_carryOut_8 rfl (lv_at hl 1 rfl) ?_
    refine va_get (D := D) (ci := 8) (v := .ref ((cAd AD 162) 0)) (C := RX6) (T := TX6) (N := 11) hx hb hts in_X6 hown hK.1 hPo 0 rfl rfl 5 (by decide) fl_43 (fun _ h9 => h9) rfl dX6_carryOut_9 ?_
    have hP := hPi
    refine va_get (D := D) (ci := 4) (v := .int (nI 1)) (C := RX2) (T := TX2) (N := 6) hx hb hts in_X2 hown hK.1 hP 0 rfl rfl 1 (by decide) fl_450 (fun _ h9 => h9) rfl dX6_carryOut_12 ?_
    refine lv_tableIn (off := 55) (tgt := 70) hx hb dX6_carryOut_15 (by decide +kernel) (by decide +kernel) rfl (by decide) ?_
    refine lv_aload_n hx hb dX6_carryOut_70 rfl (lv_at hl 1 rfl) ?_
    refine lv_aload_n hx hb dX6_carryOut_71 rfl (lv_at hl 0 rfl) ?_
    refine nv_kG (va_runV (As := [.ref ((cAd AD 162) 1)]) (rest := []) ⟨hx, hb, hml, hown, hts⟩ (c_X6_carryOutSill l (A := cRg AD 0 165) hR hk hG hI cRg_self hJ h25 hbb (T 1) (hV 0 (by decide))) (cwV 1 hts gX6_carryOut_X6_carryOutSill rfl rfl rfl (by decide +kernel) ⟨Nat.le_of_ble_eq_true rfl, Nat.le_of_ble_eq_true rfl⟩) (nt_pVn hT hS (cRg_A hAA (by decide)) ⟨hPo, hPh, hPi, hPj⟩ (va_recv hK.1 hPo (ci := 8) (q0 := 0) rfl rfl)) rfl rfl hl.1 rfl (lv_room (Nat.le_of_ble_eq_true rfl)) dX6_carryOut_72 ⟨Nat.zero_le _, Nat.zero_le _⟩) hS (cRg_A hAA (by decide)) (fun H locs hP1 hK1 hS => ?_)
    obtain ⟨u, hR, hk, hPo, hPh, hPi, hPj⟩ := hP1
    exact nv_retG hq hx hb hr hlocks (nar_i _) (rfl) hS (⟨u, hR, hk, hPo, hPh, hPi, hPj⟩) dX6_carryOut_75
  · refine lv_aload_n hx hb dX6_carryOut_0 rfl (lv_at hl 0 rfl) ?_
    refine va_get (D := D) (ci := 8) (v := .ref ((cAd AD 162) 0)) (C := RX6) (T := TX6) (N := 11) hx hb hts in_X6 hown hK.1 hPo 0 rfl rfl 5 (by decide) fl_43 (fun _ h9 => h9) rfl dX6_carryOut_1 ?_
    have hP := hPi
    refine va_get (D := D) (ci := 4) (v := .ref ((cAd AD 162) 1)) (C := RX2) (T := TX2) (N := 6) hx hb hts in_X2 hown hK.1 hP 0 rfl rfl 0 (by decide) fl_447 (fun _ h9 => h9) rfl dX6_carryOut_4 ?_
    refine lv_astore_n (lv' := [(1, .ref ((cAd AD 162) 1)), (0, .ref (AD 0))]) hx hb dX6_carryOut_7 rfl hl (by decide) rfl (fun ls hl => ?_)
    refine lv_aload_n hx hb dX6_carryOut_8 rfl (lv_at hl 1 rfl) ?_
    refine va_get (D := D) (ci := 8) (v := .ref ((cAd AD 162) 0)) (C := RX6) (T := TX6) (N := 11) hx hb hts in_X6 hown hK.1 hPo 0 rfl rfl 5 (by decide) fl_43 (fun _ h9 => h9) rfl dX6_carryOut_9 ?_
    have hP := hPi
    refine va_get (D := D) (ci := 4) (v := .int (nI 2)) (C := RX2) (T := TX2) (N := 6) hx hb hts in_X2 hown hK.1 hP 0 rfl rfl 1 (by decide) fl_450 (fun _ h9 => h9) rfl dX6_carryOut_12 ?_
    refine lv_tableIn (off := 61) (tgt := 76) hx hb dX6_carryOut_15 (by decide +kernel) (by decide +kernel) rfl (by decide) ?_
    refine lv_aload_n hx hb dX6_carryOut_76 rfl (lv_at hl 1 rfl) ?_
    refine lv_aload_n hx hb dX6_carryOut_77 rfl (lv_at hl 0 rfl) ?_
    refine nv_kG (va_runV (As := [.ref ((cAd AD 162) 1)]) (rest := []) ⟨hx, hb, hml, hown, hts⟩ (c_X6_carryOutGovern l (A := cRg AD 0 165) hR hk hG hI cRg_self hJ h25 hbb (T 1) (T 2) (hV 0 (by decide)) (hV 1 (by decide))) (cwV 1 hts gX6_carryOut_X6_carryOutGovern rfl rfl rfl (by decide +kernel) ⟨Nat.le_of_ble_eq_true rfl, Nat.le_of_ble_eq_true rfl⟩) (nt_pVn hT hS (cRg_A hAA (by decide)) ⟨hPo, hPh, hPi, hPj⟩ (va_recv hK.1 hPo (ci := 8) (q0 := 0) rfl rfl)) rfl rfl hl.1 rfl (lv_room (Nat.le_of_ble_eq_true rfl)) dX6_carryOut_78 ⟨Nat.zero_le _, Nat.zero_le _⟩) hS (cRg_A hAA (by decide)) (fun H locs hP1 hK1 hS => ?_)
    obtain ⟨u, hR, hk, hPo, hPh, hPi, hPj⟩ := hP1
    exact nv_retG hq hx hb hr hlocks (nar_i _) (rfl) hS (⟨u, hR, hk, hPo, hPh, hPi, hPj⟩) dX6_carryOut_81
  · refine lv_aload_n hx hb dX6_carryOut_0 rfl (lv_at hl 0 rfl) ?_
    refine va_get (D := D) (ci := 8) (v := .ref ((cAd AD 162) 0)) (C := RX6) (T := TX6) (N := 11) hx hb hts in_X6 hown hK.1 hPo 0 rfl rfl 5 (by decide) fl_43 (fun _ h9 => h9) rfl dX6_carryOut_1 ?_
    have hP := hPi
    refine va_get (D := D) (ci := 4) (v := .ref ((cAd AD 162) 1)) (C := RX2) (T := TX2) (N := 6) hx hb hts in_X2 hown hK.1 hP 0 rfl rfl 0 (by decide) fl_447 (fun _ h9 => h9) rfl dX6_carryOut_4 ?_
    refine lv_astore_n (lv' := [(1, .ref ((cAd AD 162) 1)), (0, .ref (AD 0))]) hx hb dX6_carryOut_7 rfl hl (by decide) rfl (fun ls hl => ?_)
    refine lv_aload_n hx hb dX6_carryOut_8 rfl (lv_at hl 1 rfl) ?_
    refine va_get (D := D) (ci := 8) (v := .ref ((cAd AD 162) 0)) (C := RX6) (T := TX6) (N := 11) hx hb hts in_X6 hown hK.1 hPo 0 rfl rfl 5 (by decide) fl_43 (fun _ h9 => h9) rfl dX6_carryOut_9 ?_
    have hP := hPi
    refine va_get (D := D) (ci := 4) (v := .int (nI 3)) (C := RX2) (T := TX2) (N := 6) hx hb hts in_X2 hown hK.1 hP 0 rfl rfl 1 (by decide) fl_450 (fun _ h9 => h9) rfl dX6_carryOut_12 ?_
    refine lv_tableIn (off := 67) (tgt := 82) hx hb dX6_carryOut_15 (by decide +kernel) (by decide +kernel) rfl (by decide) ?_
    refine lv_aload_n hx hb dX6_carryOut_82 rfl (lv_at hl 1 rfl) ?_
    refine lv_aload_n hx hb dX6_carryOut_83 rfl (lv_at hl 0 rfl) ?_
    refine nv_kG (va_runV (As := [.ref ((cAd AD 162) 1)]) (rest := []) ⟨hx, hb, hml, hown, hts⟩ (c_X6_carryOutSet l (A := cRg AD 0 165) hR hk hG hI cRg_self hJ h25 hbb (T 1) (T 2) (hV 0 (by decide)) (hV 1 (by decide))) (cwV 1 hts gX6_carryOut_X6_carryOutSet rfl rfl rfl (by decide +kernel) ⟨Nat.le_of_ble_eq_true rfl, Nat.le_of_ble_eq_true rfl⟩) (nt_pVn hT hS (cRg_A hAA (by decide)) ⟨hPo, hPh, hPi, hPj⟩ (va_recv hK.1 hPo (ci := 8) (q0 := 0) rfl rfl)) rfl rfl hl.1 rfl (lv_room (Nat.le_of_ble_eq_true rfl)) dX6_carryOut_84 ⟨Nat.zero_le _, Nat.zero_le _⟩) hS (cRg_A hAA (by decide)) (fun H locs hP1 hK1 hS => ?_)
    obtain ⟨u, hR, hk, hPo, hPh, hPi, hPj⟩ := hP1
    exact nv_retG hq hx hb hr hlocks (nar_i _) (rfl) hS (⟨u, hR, hk, hPo, hPh, hPi, hPj⟩) dX6_carryOut_87
  · refine lv_aload_n hx hb dX6_carryOut_0 rfl (lv_at hl 0 rfl) ?_
    refine va_get (D := D) (ci := 8) (v := .ref ((cAd AD 162) 0)) (C := RX6) (T := TX6) (N := 11) hx hb hts in_X6 hown hK.1 hPo 0 rfl rfl 5 (by decide) fl_43 (fun _ h9 => h9) rfl dX6_carryOut_1 ?_
    have hP := hPi
    refine va_get (D := D) (ci := 4) (v := .ref ((cAd AD 162) 1)) (C := RX2) (T := TX2) (N := 6) hx hb hts in_X2 hown hK.1 hP 0 rfl rfl 0 (by decide) fl_447 (fun _ h9 => h9) rfl dX6_carryOut_4 ?_
    refine lv_astore_n (lv' := [(1, .ref ((cAd AD 162) 1)), (0, .ref (AD 0))]) hx hb dX6_carryOut_7 rfl hl (by decide) rfl (fun ls hl => ?_)
    refine lv_aload_n hx hb dX6_carryOut_8 rfl (lv_at hl 1 rfl) ?_
    refine va_get (D := D) (ci := 8) (v := .ref ((cAd AD 162) 0)) (C := RX6) (T := TX6) (N := 11) hx hb hts in_X6 hown hK.1 hPo 0 rfl rfl 5 (by decide) fl_43 (fun _ h9 => h9) rfl dX6_carryOut_9 ?_
    have hP := hPi
    refine va_get (D := D) (ci := 4) (v := .int (nI 4)) (C := RX2) (T := TX2) (N := 6) hx hb hts in_X2 hown hK.1 hP 0 rfl rfl 1 (by decide) fl_450 (fun _ h9 => h9) rfl dX6_carryOut_12 ?_
    refine lv_tableIn (off := 73) (tgt := 88) hx hb dX6_carryOut_15 (by decide +kernel) (by decide +kernel) rfl (by decide) ?_
    refine lv_aload_n hx hb dX6_carryOut_88 rfl (lv_at hl 1 rfl) ?_
    refine lv_aload_n hx hb dX6_carryOut_89 rfl (lv_at hl 0 rfl) ?_
    refine nv_kG (va_runV (As := [.ref ((cAd AD 162) 1)]) (rest := []) ⟨hx, hb, hml, hown, hts⟩ (c_X6_carryOutEnd l (A := cRg AD 0 165) hR hk hG hI cRg_self hJ h25 hbb (T 1) (T 2) (tN (T 3)) (T 4) (hTz (by decide)).2 (hV 0 (by decide)) (hV 1 (by decide)) ((hV 2 (by decide)).trans (hTz (by decide)).1) (hV 3 (by decide))) (cwV 1 hts gX6_carryOut_X6_carryOutEnd rfl rfl rfl (by decide +kernel) ⟨Nat.le_of_ble_eq_true rfl, Nat.le_of_ble_eq_true rfl⟩) (nt_pVn hT hS (cRg_A hAA (by decide)) ⟨hPo, hPh, hPi, hPj⟩ (va_recv hK.1 hPo (ci := 8) (q0 := 0) rfl rfl)) rfl rfl hl.1 rfl (lv_room (Nat.le_of_ble_eq_true rfl)) dX6_carryOut_90 ⟨Nat.zero_le _, Nat.zero_le _⟩) hS (cRg_A hAA (by decide)) (fun H locs hP1 hK1 hS => ?_)
    obtain ⟨u, hR, hk, hPo, hPh, hPi, hPj⟩ := hP1
    exact nv_retG hq hx hb hr hlocks (nar_i _) (rfl) hS (⟨u, hR, hk, hPo, hPh, hPi, hPj⟩) dX6_carryOut_93
  · refine lv_aload_n hx hb dX6_carryOut_0 rfl (lv_at hl 0 rfl) ?_
    refine va_get (D := D) (ci := 8) (v := .ref ((cAd AD 162) 0)) (C := RX6) (T := TX6) (N := 11) hx hb hts in_X6 hown hK.1 hPo 0 rfl rfl 5 (by decide) fl_43 (fun _ h9 => h9) rfl dX6_carryOut_1 ?_
    have hP := hPi
    refine va_get (D := D) (ci := 4) (v := .ref ((cAd AD 162) 1)) (C := RX2) (T := TX2) (N := 6) hx hb hts in_X2 hown hK.1 hP 0 rfl rfl 0 (by decide) fl_447 (fun _ h9 => h9) rfl dX6_carryOut_4 ?_
    refine lv_astore_n (lv' := [(1, .ref ((cAd AD 162) 1)), (0, .ref (AD 0))]) hx hb dX6_carryOut_7 rfl hl (by decide) rfl (fun ls hl => ?_)
    refine lv_aload_n hx hb dX6_carryOut_8 rfl (lv_at hl 1 rfl) ?_
    refine va_get (D := D) (ci := 8) (v := .ref ((cAd AD 162) 0)) (C := RX6) (T := TX6) (N := 11) hx hb hts in_X6 hown hK.1 hPo 0 rfl rfl 5 (by decide) fl_43 (fun _ h9 => h9) rfl dX6_carryOut_9 ?_
    have hP := hPi
    refine va_get (D := D) (ci := 4) (v := .int (nI 5)) (C := RX2) (T := TX2) (N := 6) hx hb hts in_X2 hown hK.1 hP 0 rfl rfl 1 (by decide) fl_450 (fun _ h9 => h9) rfl dX6_carryOut_12 ?_
    refine lv_tableIn (off := 79) (tgt := 94) hx hb dX6_carryOut_15 (by decide +kernel) (by decide +kernel) rfl (by decide) ?_
    refine lv_aload_n hx hb dX6_carryOut_94 rfl (lv_at hl 1 rfl) ?_
    refine lv_aload_n hx hb dX6_carryOut_95 rfl (lv_at hl 0 rfl) ?_
    refine nv_kG (va_runV (As := [.ref ((cAd AD 162) 1)]) (rest := []) ⟨hx, hb, hml, hown, hts⟩ (c_X6_carryOutKey l (A := cRg AD 0 165) hR hk hG hI cRg_self hJ h25 hbb (T 1) (T 2) (hV 0 (by decide)) (hV 1 (by decide))) (cwV 1 hts gX6_carryOut_X6_carryOutKey rfl rfl rfl (by decide +kernel) ⟨Nat.le_of_ble_eq_true rfl, Nat.le_of_ble_eq_true rfl⟩) (nt_pVn hT hS (cRg_A hAA (by decide)) ⟨hPo, hPh, hPi, hPj⟩ (va_recv hK.1 hPo (ci := 8) (q0 := 0) rfl rfl)) rfl rfl hl.1 rfl (lv_room (Nat.le_of_ble_eq_true rfl)) dX6_carryOut_96 ⟨Nat.zero_le _, Nat.zero_le _⟩) hS (cRg_A hAA (by decide)) (fun H locs hP1 hK1 hS => ?_)
    obtain ⟨u, hR, hk, hPo, hPh, hPi, hPj⟩ := hP1
    exact nv_retG hq hx hb hr hlocks (nar_i _) (rfl) hS (⟨u, hR, hk, hPo, hPh, hPi, hPj⟩) dX6_carryOut_99
  · refine lv_aload_n hx hb dX6_carryOut_0 rfl (lv_at hl 0 rfl) ?_
    refine va_get (D := D) (ci := 8) (v := .ref ((cAd AD 162) 0)) (C := RX6) (T := TX6) (N := 11) hx hb hts in_X6 hown hK.1 hPo 0 rfl rfl 5 (by decide) fl_43 (fun _ h9 => h9) rfl dX6_carryOut_1 ?_
    have hP := hPi
    refine va_get (D := D) (ci := 4) (v := .ref ((cAd AD 162) 1)) (C := RX2) (T := TX2) (N := 6) hx hb hts in_X2 hown hK.1 hP 0 rfl rfl 0 (by decide) fl_447 (fun _ h9 => h9) rfl dX6_carryOut_4 ?_
    refine lv_astore_n (lv' := [(1, .ref ((cAd AD 162) 1)), (0, .ref (AD 0))]) hx hb dX6_carryOut_7 rfl hl (by decide) rfl (fun ls hl => ?_)
    refine lv_aload_n hx hb dX6_carryOut_8 rfl (lv_at hl 1 rfl) ?_
    refine va_get (D := D) (ci := 8) (v := .ref ((cAd AD 162) 0)) (C := RX6) (T := TX6) (N := 11) hx hb hts in_X6 hown hK.1 hPo 0 rfl rfl 5 (by decide) fl_43 (fun _ h9 => h9) rfl dX6_carryOut_9 ?_
    have hP := hPi
    refine va_get (D := D) (ci := 4) (v := .int (nI 6)) (C := RX2) (T := TX2) (N := 6) hx hb hts in_X2 hown hK.1 hP 0 rfl rfl 1 (by decide) fl_450 (fun _ h9 => h9) rfl dX6_carryOut_12 ?_
    refine lv_tableIn (off := 85) (tgt := 100) hx hb dX6_carryOut_15 (by decide +kernel) (by decide +kernel) rfl (by decide) ?_
    refine lv_aload_n hx hb dX6_carryOut_100 rfl (lv_at hl 1 rfl) ?_
    refine lv_aload_n hx hb dX6_carryOut_101 rfl (lv_at hl 0 rfl) ?_
    refine nv_kG (va_runV (As := [.ref ((cAd AD 162) 1)]) (rest := []) ⟨hx, hb, hml, hown, hts⟩ (c_X6_carryOutKnock l (A := cRg AD 0 165) hR hk hG hI cRg_self hJ h25 hbb (T 1) (T 2) (tN (T 3)) (T 4) (hTz (by decide)).2 (hV 0 (by decide)) (hV 1 (by decide)) ((hV 2 (by decide)).trans (hTz (by decide)).1) (hV 3 (by decide))) (cwV 1 hts gX6_carryOut_X6_carryOutKnock rfl rfl rfl (by decide +kernel) ⟨Nat.le_of_ble_eq_true rfl, Nat.le_of_ble_eq_true rfl⟩) (nt_pVn hT hS (cRg_A hAA (by decide)) ⟨hPo, hPh, hPi, hPj⟩ (va_recv hK.1 hPo (ci := 8) (q0 := 0) rfl rfl)) rfl rfl hl.1 rfl (lv_room (Nat.le_of_ble_eq_true rfl)) dX6_carryOut_102 ⟨Nat.zero_le _, Nat.zero_le _⟩) hS (cRg_A hAA (by decide)) (fun H locs hP1 hK1 hS => ?_)
    obtain ⟨u, hR, hk, hPo, hPh, hPi, hPj⟩ := hP1
    exact nv_retG hq hx hb hr hlocks (nar_i _) (rfl) hS (⟨u, hR, hk, hPo, hPh, hPi, hPj⟩) dX6_carryOut_105
  · refine lv_aload_n hx hb dX6_carryOut_0 rfl (lv_at hl 0 rfl) ?_
    refine va_get (D := D) (ci := 8) (v := .ref ((cAd AD 162) 0)) (C := RX6) (T := TX6) (N := 11) hx hb hts in_X6 hown hK.1 hPo 0 rfl rfl 5 (by decide) fl_43 (fun _ h9 => h9) rfl dX6_carryOut_1 ?_
    have hP := hPi
    refine va_get (D := D) (ci := 4) (v := .ref ((cAd AD 162) 1)) (C := RX2) (T := TX2) (N := 6) hx hb hts in_X2 hown hK.1 hP 0 rfl rfl 0 (by decide) fl_447 (fun _ h9 => h9) rfl dX6_carryOut_4 ?_
    refine lv_astore_n (lv' := [(1, .ref ((cAd AD 162) 1)), (0, .ref (AD 0))]) hx hb dX6_carryOut_7 rfl hl (by decide) rfl (fun ls hl => ?_)
    refine lv_aload_n hx hb dX6_carryOut_8 rfl (lv_at hl 1 rfl) ?_
    refine va_get (D := D) (ci := 8) (v := .ref ((cAd AD 162) 0)) (C := RX6) (T := TX6) (N := 11) hx hb hts in_X6 hown hK.1 hPo 0 rfl rfl 5 (by decide) fl_43 (fun _ h9 => h9) rfl dX6_carryOut_9 ?_
    have hP := hPi
    refine va_get (D := D) (ci := 4) (v := .int (nI 7)) (C := RX2) (T := TX2) (N := 6) hx hb hts in_X2 hown hK.1 hP 0 rfl rfl 1 (by decide) fl_450 (fun _ h9 => h9) rfl dX6_carryOut_12 ?_
    refine lv_tableIn (off := 91) (tgt := 106) hx hb dX6_carryOut_15 (by decide +kernel) (by decide +kernel) rfl (by decide) ?_
    refine lv_aload_n hx hb dX6_carryOut_106 rfl (lv_at hl 1 rfl) ?_
    refine lv_aload_n hx hb dX6_carryOut_107 rfl (lv_at hl 0 rfl) ?_
    refine nv_kG (va_runV (As := [.ref ((cAd AD 162) 1)]) (rest := []) ⟨hx, hb, hml, hown, hts⟩ (c_X6_carryOutShut l (A := cRg AD 0 165) hR hk hG hI cRg_self hJ h25 hbb (T 1) (hV 0 (by decide))) (cwV 1 hts gX6_carryOut_X6_carryOutShut rfl rfl rfl (by decide +kernel) ⟨Nat.le_of_ble_eq_true rfl, Nat.le_of_ble_eq_true rfl⟩) (nt_pVn hT hS (cRg_A hAA (by decide)) ⟨hPo, hPh, hPi, hPj⟩ (va_recv hK.1 hPo (ci := 8) (q0 := 0) rfl rfl)) rfl rfl hl.1 rfl (lv_room (Nat.le_of_ble_eq_true rfl)) dX6_carryOut_108 ⟨Nat.zero_le _, Nat.zero_le _⟩) hS (cRg_A hAA (by decide)) (fun H locs hP1 hK1 hS => ?_)
    obtain ⟨u, hR, hk, hPo, hPh, hPi, hPj⟩ := hP1
    exact nv_retG hq hx hb hr hlocks (nar_i _) (rfl) hS (⟨u, hR, hk, hPo, hPh, hPi, hPj⟩) dX6_carryOut_111
  · refine lv_aload_n hx hb dX6_carryOut_0 rfl (lv_at hl 0 rfl) ?_
    refine va_get (D := D) (ci := 8) (v := .ref ((cAd AD 162) 0)) (C := RX6) (T := TX6) (N := 11) hx hb hts in_X6 hown hK.1 hPo 0 rfl rfl 5 (by decide) fl_43 (fun _ h9 => h9) rfl dX6_carryOut_1 ?_
    have hP := hPi
    refine va_get (D := D) (ci := 4) (v := .ref ((cAd AD 162) 1)) (C := RX2) (T := TX2) (N := 6) hx hb hts in_X2 hown hK.1 hP 0 rfl rfl 0 (by decide) fl_447 (fun _ h9 => h9) rfl dX6_carryOut_4 ?_
    refine lv_astore_n (lv' := [(1, .ref ((cAd AD 162) 1)), (0, .ref (AD 0))]) hx hb dX6_carryOut_7 rfl hl (by decide) rfl (fun ls hl => ?_)
    refine lv_aload_n hx hb dX6_carryOut_8 rfl (lv_at hl 1 rfl) ?_
    refine va_get (D := D) (ci := 8) (v := .ref ((cAd AD 162) 0)) (C := RX6) (T := TX6) (N := 11) hx hb hts in_X6 hown hK.1 hPo 0 rfl rfl 5 (by decide) fl_43 (fun _ h9 => h9) rfl dX6_carryOut_9 ?_
    have hP := hPi
    refine va_get (D := D) (ci := 4) (v := .int (nI 8)) (C := RX2) (T := TX2) (N := 6) hx hb hts in_X2 hown hK.1 hP 0 rfl rfl 1 (by decide) fl_450 (fun _ h9 => h9) rfl dX6_carryOut_12 ?_
    refine lv_tableIn (off := 97) (tgt := 112) hx hb dX6_carryOut_15 (by decide +kernel) (by decide +kernel) rfl (by decide) ?_
    refine lv_aload_n hx hb dX6_carryOut_112 rfl (lv_at hl 1 rfl) ?_
    refine lv_aload_n hx hb dX6_carryOut_113 rfl (lv_at hl 0 rfl) ?_
    refine nv_kG (va_runV (As := [.ref ((cAd AD 162) 1)]) (rest := []) ⟨hx, hb, hml, hown, hts⟩ (c_X6_carryOutFree l (A := cRg AD 0 165) hR hk hG hI cRg_self hJ h25 hbb (T 1) (T 2) (hV 0 (by decide)) (hV 1 (by decide))) (cwV 1 hts gX6_carryOut_X6_carryOutFree rfl rfl rfl (by decide +kernel) ⟨Nat.le_of_ble_eq_true rfl, Nat.le_of_ble_eq_true rfl⟩) (nt_pVn hT hS (cRg_A hAA (by decide)) ⟨hPo, hPh, hPi, hPj⟩ (va_recv hK.1 hPo (ci := 8) (q0 := 0) rfl rfl)) rfl rfl hl.1 rfl (lv_room (Nat.le_of_ble_eq_true rfl)) dX6_carryOut_114 ⟨Nat.zero_le _, Nat.zero_le _⟩) hS (cRg_A hAA (by decide)) (fun H locs hP1 hK1 hS => ?_)
    obtain ⟨u, hR, hk, hPo, hPh, hPi, hPj⟩ := hP1
    exact nv_retG hq hx hb hr hlocks (nar_i _) (rfl) hS (⟨u, hR, hk, hPo, hPh, hPi, hPj⟩) dX6_carryOut_117
