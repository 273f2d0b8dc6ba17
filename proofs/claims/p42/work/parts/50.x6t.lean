/-! the class itself -/
/-- the class's world, its house told by its own numbers -/
def cJ (D : va_G) (cI cC cD cR : ClassId) (AD : Nat → Nat) (u : hS) (Sv Hi In Le : Nat → Nat) (hs ch ty wy ln : Nat) (ea ra wd : Int32) (H : Heap) : Prop :=
  va_P D vwCl (cOb AD hs wy wd ea ra) H ∧ va_P D vwCl (hw cI cD (cAd AD 1) u) H ∧ cIn D cI cC AD In ty H ∧ cSv D cI cD AD hs Sv H ∧ cPa D cI cD cR AD Hi ch H ∧ cWk D cI AD H ∧ cTx D cC AD Le ln H
/-- behind a change -/
def cWv (D : va_G) (cI cC cD cR : ClassId) (AD : Nat → Nat) (G Sv Hi In Le : Nat → Nat) (hs ch ty wy ln : Nat) (ea ra wd : Int32) (v : V) (H : Heap) : Prop :=
  cW D cI cC cD cR AD v.2.2.2.2 Sv (if v.1 = 0 then hPush Hi G ch else Hi) In Le hs (if v.1 = 0 then (if ch = 8 then 8 else ch + 1) else ch) ty (vWy v wy) ln ea ra (vWd v wd) H
/-- what the house and the object lie beside -/
def cJ9 (D : va_G) (cI cC cD cR : ClassId) (AD : Nat → Nat) (Sv Hi In Le : Nat → Nat) (hs ch ty ln : Nat) (H : Heap) : Prop := cIn D cI cC AD In ty H ∧ cSv D cI cD AD hs Sv H ∧ cPa D cI cD cR AD Hi ch H ∧ cWk D cI AD H ∧ cTx D cC AD Le ln H
section CJ
variable {D : va_G} {AD : Nat → Nat} {H H1 : Heap} {cI cC cD cR : ClassId} {u : hS} {G G2 Sv Hi In Le : Nat → Nat} {hs ch ty wy ln : Nat} {ea ra wd r : Int32} {v : V} {s : State} {tys : List (ClassId × FieldType)} {A : Nat → Prop}
theorem cOn_J9 : cOn AD 15 165 (cJ9 D cI cC cD cR AD Sv Hi In Le hs ch ty ln) := cOn.and cOn_In cOn_Re (by decide) (Nat.le_refl _) (Nat.le_refl _) (by decide)
theorem cJ.grow (h : cJ D cI cC cD cR AD u Sv Hi In Le hs ch ty wy ln ea ra wd H) (hK : ∀ q : Nat, q < H.size → H1[q]? = H[q]?) : cJ D cI cC cD cR AD u Sv Hi In Le hs ch ty wy ln ea ra wd H1 := by
  have hK : cFr (fun _ => False) H H1 := fun q h1 _ => hK q h1
  obtain ⟨h1, h2, h3⟩ := h
  exact ⟨cOn_Ob _ H H1 (fun _ _ _ z => z) hK h1, cOn_P (cAt_hw 1) _ H H1 (fun _ _ _ z => z) hK h2, cOn_J9 _ H H1 (fun _ _ _ z => z) hK h3⟩
theorem cJ.W (h : cJ D cI cC cD cR AD u Sv Hi In Le hs ch ty wy ln ea ra wd H) (hR : hRel u G) (hk : hOk u) : cW D cI cC cD cR AD G Sv Hi In Le hs ch ty wy ln ea ra wd H := by
  obtain ⟨h1, h2, h3, h4⟩ := h
  exact ⟨h1, ⟨u, hR, hk, h2⟩, h3, h4⟩
theorem cWv_no (h : ¬ v.1 = 0) (hG : v.2.2.2.2 = G) (hR : hRel u G) (hk : hOk u) (hJ : cJ D cI cC cD cR AD u Sv Hi In Le hs ch ty (vWy v wy) ln ea ra (vWd v wd) H) : cWv D cI cC cD cR AD G Sv Hi In Le hs ch ty wy ln ea ra wd v H := by
  unfold cWv
  rw [if_neg h, if_neg h, hG]
  exact hJ.W hR hk
theorem cWv_ok (h : v = vOk r G2) (hO9 : hO D cI cD (cAd AD 1) G2 H) (h1 : va_P D vwCl (cOb AD hs (vWy v wy) (vWd v wd) ea ra) H) (h3 : cIn D cI cC AD In ty H) (h4 : cSv D cI cD AD hs Sv H) (h5 : cPa D cI cD cR AD (hPush Hi G ch) (if ch = 8 then 8 else ch + 1) H) (h6 : cWk D cI AD H) (h7 : cTx D cC AD Le ln H) : cWv D cI cC cD cR AD G Sv Hi In Le hs ch ty wy ln ea ra wd v H := by
  subst h
  unfold cWv
  rw [if_pos (show (vOk r G2).1 = 0 from rfl), if_pos (show (vOk r G2).1 = 0 from rfl)]
  exact ⟨h1, hO9, h3, h4, h5, h6, h7⟩
theorem cPa.recv (hK : va_K D vwCl tys s) (h : cPa D cI cD cR AD Hi ch H) : ∃ cell : Cell, H[AD 29]? = some cell ∧ cell.vm.isStatics = false ∧ s.vm.findClass RX3 = some cell.cls := by
  obtain ⟨f, _, h, _⟩ := h
  exact va_recv hK h (ci := 5) (q0 := 0) rfl rfl
theorem cRg_self : ∀ i, i < 165 → cRg AD 0 165 (AD i) := fun i hi => ⟨i, Nat.zero_le _, hi, rfl⟩
theorem cRg_sg {lo hi k : Nat} (h : lo ≤ k ∧ k < hi) : cRg AD lo hi (AD k) := ⟨k, h.1, h.2, rfl⟩
end CJ

set_option maxHeartbeats 1000000 in
set_option maxRecDepth 100000 in
theorem c_X3_add (l : Launch) {D : va_G} {cI cC cD cR : ClassId} {sa : sA} {A : Nat → Prop} {AD : Nat → Nat} {u : hS} {G Hi : Nat → Nat} {ch : Nat} (hA2 : ∀ q, (cRg AD 1 15 q ∨ cRg AD 29 157 q) → A q) (hI : cInj AD) (hch : ch ≤ 8) (hHw : ∀ j, j < ch → hAt Hi j 0 ≤ 8 ∧ hAt Hi j 1 ≤ 6 ∧ hAt Hi j 2 ≤ 5) (hGw : G 0 ≤ 8 ∧ G 1 ≤ 6 ∧ G 2 ≤ 5) (hR : hRel u G) (hk : hOk u) : Met l yX3_add wsX3_add ({ frames := 3, cells := 0, slots := 0, locals := 111 }) (va_Pc [.ref (AD 29), .ref ((cAd AD 1) 0)] (tPre D [(cI, .int), (cC, .char), (cD, .object "DoorDialect$Door"), (cR, .object "DoorDialect$House")] nN sa A (fun H => cPa D cI cD cR AD Hi ch H ∧ va_P D vwCl (hw cI cD (cAd AD 1) u) H))) (gQv ((fun H => cPa D cI cD cR AD (hPush Hi G ch) (if ch = 8 then 8 else ch + 1) H ∧ va_P D vwCl (hw cI cD (cAd AD 1) u) H)) A) 0 0 A := by
  refine nv_met (cc := cX3_add) (maxL := 2) (ret := none) (by decide) rfl (Nat.le_of_ble_eq_true rfl) ?_
  intro p0 e0 s m0 args below meth c0 Q hq hargs hnA hpre ls hl
  obtain ⟨hx, hb, hr, hts, hown, hlocks, hml⟩ := hnA
  obtain ⟨hP, hT⟩ := hpre
  have hK := hT.1
  have hown : s.vm.findClass RX3 = some m0.cls := hown
  obtain ⟨⟨f, hf, hPp, hring⟩, hPh⟩ := hP
  obtain ⟨z, hzk, hPz, _⟩ := hring ((f + ch) % 9) (by omega)
  have hPp : va_P D vwCl (pw9 cR AD f ch) s.heap := hPp
  have hPh : va_P D vwCl (hw cI cD (cAd AD 1) u) s.heap := hPh
  have hl : lv_has ls 2 [(0, .ref (AD 29)), (1, .ref ((cAd AD 1) 0))] := hl
  have hS : va_S A s.heap s.heap [] := va_S.rf
  refine lv_aload_n hx hb dX3_add_0 rfl (lv_at hl 0 rfl) ?_
  refine lv_aload_n hx hb dX3_add_1 rfl (lv_at hl 1 rfl) ?_
  refine nv_kGv (va_runV (As := [.ref ((cAd AD 1) 0)]) (rest := []) ⟨hx, hb, hml, hown, hts⟩ (c_X3_stage l (fun _ => cD_two hI (by omega) (by decide) (Or.inr (by omega))) (by omega) (by omega) hk) (cwV 1 hts gX3_add_X3_stage rfl rfl rfl (by decide +kernel) ⟨Nat.le_of_ble_eq_true rfl, Nat.le_of_ble_eq_true rfl⟩) (nt_pVn hT hS (fun q h => hA2 q (h.imp id (cRg_sub (by omega) (by omega) q))) ⟨hPp, va_P.app hPz hPh⟩ (va_recv hK.1 hPp (ci := 5) (q0 := 0) rfl rfl)) rfl rfl hl.1 rfl (lv_room (Nat.le_of_ble_eq_true rfl)) dX3_add_2 ⟨Nat.zero_le _, Nat.zero_le _⟩) hS (fun q h => hA2 q (h.imp id (cRg_sub (by omega) (by omega) q))) (fun H locs hP1 hK1 hS => ?_)
  obtain ⟨z1, hz1, hPzh⟩ := hP1
  have hPz := va_P.left hPzh
  have hPh := va_P.right hPzh
  have hPp := (cOn_P (b := 29) (n := 2) cAt_2).keep2 hI hK1 hPp (Or.inl (by omega)) (Or.inr (by decide)) (by decide) (by omega) (by decide)
  refine lv_aload_n hx hb dX3_add_5 rfl (lv_at hl 0 rfl) ?_
  have hKa := hK1
  have hP := hPp
  refine nv_kGv (va_runV (As := []) (rest := []) ⟨hx, hb, hml, hown, hts⟩ (c_X3_keepStaged l (fun _ _ => cD_of (b := 29) (n := 2) hI cAt_2 (by decide)) (by omega) (by omega)) (cwV 0 hts gX3_add_X3_keepStaged rfl rfl rfl (by decide +kernel) ⟨Nat.le_of_ble_eq_true rfl, Nat.le_of_ble_eq_true rfl⟩) (nt_pVn hT hS (fun q h => hA2 q (Or.inr (cRg_sub (Nat.le_refl 29) (by decide) q h))) hP (va_recv hK.1 hP (ci := 5) (q0 := 0) rfl rfl)) rfl rfl hl.1 rfl (lv_room (Nat.le_of_ble_eq_true rfl)) dX3_add_6 ⟨Nat.zero_le _, Nat.zero_le _⟩) hS (fun q h => hA2 q (Or.inr (cRg_sub (Nat.le_refl 29) (by decide) q h))) (fun H locs hP1 hK1 hS => ?_)
  have hPp := hP1
  have hPh := (cOn_P (cAt_hw 1)).keep hI hK1 hPh (Or.inl (by decide)) (by decide) (by decide)
  exact nv_retGv hq hx hb hr hlocks hS (⟨cPa_push hI hch hf hHw hGw hring hKa hK1 hPz (hz1.ok hk) (hz1.rel hR hGw.1 hGw.2.1 hGw.2.2) hPp, hPh⟩) dX3_add_9

set_option maxHeartbeats 1000000 in
set_option maxRecDepth 100000 in
theorem c_X6_throwFault (l : Launch) (hl9 : l.stackTraces = false) {D : va_G} {cI cC cD cR : ClassId} {sa : sA} {A : Nat → Prop} {J : Heap → Prop} (hJg : ∀ H H1 : Heap, (∀ q : Nat, q < H.size → H1[q]? = H[q]?) → J H → J H1) (k : Nat) (hk : k ≤ 3) : vx_Met l yX6_throwFault wsX6_throwFault ({ frames := 6, cells := 1, slots := 6, locals := 82 }) (va_Pc [.int (nI k)] (tPre D [(cI, .int), (cC, .char), (cD, .object "DoorDialect$Door"), (cR, .object "DoorDialect$House")] nN sa A (J))) (gQXv (k) J A) (xQ nsT (k) J A) 1 6 A := by
  refine nv_metX (cc := cX6_throwFault) (maxL := 1) (ret := none) (by decide) rfl (Nat.le_of_ble_eq_true rfl) ?_
  intro p0 e0 s m0 args below meth c0 Q hq hargs hnA hout hpre ls hl
  obtain ⟨hx, hb, hr, hts, hown, hlocks, hml⟩ := hnA
  obtain ⟨hP, hT⟩ := hpre
  have hK := hT.1
  have hown : s.vm.findClass RX6 = some m0.cls := hown
  have hPJ : J s.heap := hP
  have hl : lv_has ls 1 [(0, .int (nI k))] := hl
  have hS : va_S A s.heap s.heap [] := va_S.rf
  refine lv_iload_n hx hb dX6_throwFault_0 rfl (lv_at hl 0 rfl) ?_
  refine lv_iconst (v := nI 1) hx hb dX6_throwFault_1 (by decide) ?_
  refine nv_icmp_ne (tgt := 16) hx hb dX6_throwFault_2 (by decide) (by omega) (by omega) (fun c1 => ?_) (fun c1 => ?_)
  · refine lv_iload_n hx hb dX6_throwFault_16 rfl (lv_at hl 0 rfl) ?_
    refine lv_iconst (v := nI 2) hx hb dX6_throwFault_17 (by decide) ?_
    refine nv_icmp_ne (tgt := 32) hx hb dX6_throwFault_18 (by decide) (by omega) (by omega) (fun c2 => ?_) (fun c2 => ?_)
    · refine lv_iload_n hx hb dX6_throwFault_32 rfl (lv_at hl 0 rfl) ?_
      refine lv_iconst (v := nI 3) hx hb dX6_throwFault_33 (by decide) ?_
      refine nv_icmp_ne (tgt := 48) hx hb dX6_throwFault_34 (by decide) (by omega) (by omega) (fun c3 => ?_) (fun c3 => ?_)
      · exact nv_retGXv hq hx hb hr hlocks (Nat.le_of_ble_eq_true rfl) (Nat.le_of_ble_eq_true rfl) (by omega) hS (hPJ) dX6_throwFault_48
      · exact nv_throwW (ws := wsX6_throwFault) (ik := 390) (is := 423) (ic := 394) (cls := "java/lang/UnsupportedOperationException") (text := "it is refused") (names := ["java/lang/RuntimeException", "java/lang/Exception"]) hq hx hb hl9 hown hts hT xUOE_fit ⟨by decide +kernel, by decide +kernel⟩ ⟨by decide +kernel, by decide +kernel⟩ (fun w hw => List.mem_cons_of_mem _ (List.mem_append_right _ hw)) xUOE_bad xUOE_ok hS (hl.1.trans hml.symm) dX6_throwFault_37 dX6_throwFault_40 dX6_throwFault_41 dX6_throwFault_44 dX6_throwFault_47 hout (by decide) (Nat.le_of_ble_eq_true rfl) (Nat.le_of_ble_eq_true rfl) (Nat.le_of_ble_eq_true rfl) hlocks (Nat.le_of_ble_eq_true rfl) (Nat.le_of_ble_eq_true rfl) (by omega) (by rw [show k = 3 by omega]; rfl) (fun H1 h9 => hJg _ H1 h9 hPJ)
    · exact nv_throwW (ws := wsX6_throwFault) (ik := 182) (is := 421) (ic := 186) (cls := "java/lang/IndexOutOfBoundsException") (text := "there is nothing of that number") (names := ["java/lang/RuntimeException", "java/lang/Exception"]) hq hx hb hl9 hown hts hT xIOOBE_fit ⟨by decide +kernel, by decide +kernel⟩ ⟨by decide +kernel, by decide +kernel⟩ (fun w hw => List.mem_cons_of_mem _ (List.mem_append_left _ (List.mem_append_right _ hw))) xIOOBE_bad xIOOBE_ok hS (hl.1.trans hml.symm) dX6_throwFault_21 dX6_throwFault_24 dX6_throwFault_25 dX6_throwFault_28 dX6_throwFault_31 hout (by decide) (Nat.le_of_ble_eq_true rfl) (Nat.le_of_ble_eq_true rfl) (Nat.le_of_ble_eq_true rfl) hlocks (Nat.le_of_ble_eq_true rfl) (Nat.le_of_ble_eq_true rfl) (by omega) (by rw [show k = 2 by omega]; rfl) (fun H1 h9 => hJg _ H1 h9 hPJ)
  · exact nv_throwW (ws := wsX6_throwFault) (ik := 168) (is := 419) (ic := 172) (cls := "java/lang/IllegalArgumentException") (text := "there is nothing such") (names := ["java/lang/RuntimeException", "java/lang/Exception"]) hq hx hb hl9 hown hts hT xIAE_fit ⟨by decide +kernel, by decide +kernel⟩ ⟨by decide +kernel, by decide +kernel⟩ (fun w hw => List.mem_cons_of_mem _ (List.mem_append_left _ (List.mem_append_left _ (List.mem_append_right _ hw)))) xIAE_bad xIAE_ok hS (hl.1.trans hml.symm) dX6_throwFault_5 dX6_throwFault_8 dX6_throwFault_9 dX6_throwFault_12 dX6_throwFault_15 hout (by decide) (Nat.le_of_ble_eq_true rfl) (Nat.le_of_ble_eq_true rfl) (Nat.le_of_ble_eq_true rfl) hlocks (Nat.le_of_ble_eq_true rfl) (Nat.le_of_ble_eq_true rfl) (by omega) (by rw [show k = 1 by omega]; rfl) (fun H1 h9 => hJg _ H1 h9 hPJ)

set_option maxHeartbeats 1000000 in
set_option maxRecDepth 100000 in
theorem c_X6_requireRoom (l : Launch) (hl9 : l.stackTraces = false) {D : va_G} {cI cC cD cR : ClassId} {sa : sA} {A : Nat → Prop} {J : Heap → Prop} (hJg : ∀ H H1 : Heap, (∀ q : Nat, q < H.size → H1[q]? = H[q]?) → J H → J H1) (x : Int32) : vx_Met l yX6_requireRoom wsX6_requireRoom ({ frames := 6, cells := 1, slots := 6, locals := 82 }) (va_Pc [.int x] (tPre D [(cI, .int), (cC, .char), (cD, .object "DoorDialect$Door"), (cR, .object "DoorDialect$House")] nN sa A (J))) (gQXv (if iR x 6 then 0 else 1) J A) (xQ ["java/lang/IndexOutOfBoundsException"] (if iR x 6 then 0 else 1) J A) 1 6 A := by
  refine nv_metX (cc := cX6_requireRoom) (maxL := 1) (ret := none) (by decide) rfl (Nat.le_of_ble_eq_true rfl) ?_
  intro p0 e0 s m0 args below meth c0 Q hq hargs hnA hout hpre ls hl
  obtain ⟨hx, hb, hr, hts, hown, hlocks, hml⟩ := hnA
  obtain ⟨hP, hT⟩ := hpre
  have hK := hT.1
  have hown : s.vm.findClass RX6 = some m0.cls := hown
  have hPJ : J s.heap := hP
  have hl : lv_has ls 1 [(0, .int x)] := hl
  have hS : va_S A s.heap s.heap [] := va_S.rf
  refine lv_iload_n hx hb dX6_requireRoom_0 rfl (lv_at hl 0 rfl) ?_
  refine lv_bipush (v := nI 6) hx hb dX6_requireRoom_1 (by decide) ?_
  refine nv_kS (va_runS (As := [.int x, .int (nI 6)]) (rest := []) ⟨hx, hb, hml, hown, hts⟩ (c_X6_isBelow l (x) 6 (by omega)) (va_cwS 2 hts gX6_requireRoom_X6_isBelow rfl rfl rfl (by decide +kernel) ⟨Nat.le_of_ble_eq_true rfl, Nat.le_of_ble_eq_true rfl⟩) (nt_pS hT hS trivial) rfl rfl hl.1 rfl (lv_room (Nat.le_of_ble_eq_true rfl)) dX6_requireRoom_3 ⟨Nat.le_of_ble_eq_true rfl, Nat.le_of_ble_eq_true rfl⟩) ?_
  refine nv_ifb_ne (tgt := 20) hx hb dX6_requireRoom_6 (by decide) (fun c1 => ?_) (fun c1 => ?_)
  · exact nv_retGXv hq hx hb hr hlocks (Nat.le_of_ble_eq_true rfl) (Nat.le_of_ble_eq_true rfl) (if_pos c1) hS (hPJ) dX6_requireRoom_20
  · exact nv_throwW (ws := wsX6_requireRoom) (ik := 182) (is := 415) (ic := 186) (cls := "java/lang/IndexOutOfBoundsException") (text := "there is no such room") (names := ["java/lang/RuntimeException", "java/lang/Exception"]) hq hx hb hl9 hown hts hT xIOOBE_fit ⟨by decide +kernel, by decide +kernel⟩ ⟨by decide +kernel, by decide +kernel⟩ (fun w hw => List.mem_cons_of_mem _ (List.mem_append_right _ hw)) xIOOBE_bad xIOOBE_ok hS (hl.1.trans hml.symm) dX6_requireRoom_9 dX6_requireRoom_12 dX6_requireRoom_13 dX6_requireRoom_16 dX6_requireRoom_19 hout (by decide) (Nat.le_of_ble_eq_true rfl) (Nat.le_of_ble_eq_true rfl) (Nat.le_of_ble_eq_true rfl) hlocks (Nat.le_of_ble_eq_true rfl) (Nat.le_of_ble_eq_true rfl) (by rw [if_neg c1]; exact Nat.one_ne_zero) (by rw [if_neg c1]; rfl) (fun H1 h9 => hJg _ H1 h9 hPJ)

set_option maxHeartbeats 1000000 in
set_option maxRecDepth 100000 in
theorem c_X6_requireDeclension (l : Launch) (hl9 : l.stackTraces = false) {D : va_G} {cI cC cD cR : ClassId} {sa : sA} {A : Nat → Prop} {J : Heap → Prop} (hJg : ∀ H H1 : Heap, (∀ q : Nat, q < H.size → H1[q]? = H[q]?) → J H → J H1) (x : Int32) : vx_Met l yX6_requireDeclension wsX6_requireDeclension ({ frames := 6, cells := 1, slots := 6, locals := 82 }) (va_Pc [.int x] (tPre D [(cI, .int), (cC, .char), (cD, .object "DoorDialect$Door"), (cR, .object "DoorDialect$House")] nN sa A (J))) (gQXv (if iR x 3 then 0 else 1) J A) (xQ ["java/lang/IllegalArgumentException"] (if iR x 3 then 0 else 1) J A) 1 6 A := by
  refine nv_metX (cc := cX6_requireDeclension) (maxL := 1) (ret := none) (by decide) rfl (Nat.le_of_ble_eq_true rfl) ?_
  intro p0 e0 s m0 args below meth c0 Q hq hargs hnA hout hpre ls hl
  obtain ⟨hx, hb, hr, hts, hown, hlocks, hml⟩ := hnA
  obtain ⟨hP, hT⟩ := hpre
  have hK := hT.1
  have hown : s.vm.findClass RX6 = some m0.cls := hown
  have hPJ : J s.heap := hP
  have hl : lv_has ls 1 [(0, .int x)] := hl
  have hS : va_S A s.heap s.heap [] := va_S.rf
  refine lv_iload_n hx hb dX6_requireDeclension_0 rfl (lv_at hl 0 rfl) ?_
  refine lv_iconst (v := nI 3) hx hb dX6_requireDeclension_1 (by decide) ?_
  refine nv_kS (va_runS (As := [.int x, .int (nI 3)]) (rest := []) ⟨hx, hb, hml, hown, hts⟩ (c_X6_isBelow l (x) 3 (by omega)) (va_cwS 2 hts gX6_requireDeclension_X6_isBelow rfl rfl rfl (by decide +kernel) ⟨Nat.le_of_ble_eq_true rfl, Nat.le_of_ble_eq_true rfl⟩) (nt_pS hT hS trivial) rfl rfl hl.1 rfl (lv_room (Nat.le_of_ble_eq_true rfl)) dX6_requireDeclension_2 ⟨Nat.le_of_ble_eq_true rfl, Nat.le_of_ble_eq_true rfl⟩) ?_
  refine nv_ifb_ne (tgt := 19) hx hb dX6_requireDeclension_5 (by decide) (fun c1 => ?_) (fun c1 => ?_)
  · exact nv_retGXv hq hx hb hr hlocks (Nat.le_of_ble_eq_true rfl) (Nat.le_of_ble_eq_true rfl) (if_pos c1) hS (hPJ) dX6_requireDeclension_19
  · exact nv_throwW (ws := wsX6_requireDeclension) (ik := 168) (is := 417) (ic := 172) (cls := "java/lang/IllegalArgumentException") (text := "there is no such declension") (names := ["java/lang/RuntimeException", "java/lang/Exception"]) hq hx hb hl9 hown hts hT xIAE_fit ⟨by decide +kernel, by decide +kernel⟩ ⟨by decide +kernel, by decide +kernel⟩ (fun w hw => List.mem_cons_of_mem _ (List.mem_append_right _ hw)) xIAE_bad xIAE_ok hS (hl.1.trans hml.symm) dX6_requireDeclension_8 dX6_requireDeclension_11 dX6_requireDeclension_12 dX6_requireDeclension_15 dX6_requireDeclension_18 hout (by decide) (Nat.le_of_ble_eq_true rfl) (Nat.le_of_ble_eq_true rfl) (Nat.le_of_ble_eq_true rfl) hlocks (Nat.le_of_ble_eq_true rfl) (Nat.le_of_ble_eq_true rfl) (by rw [if_neg c1]; exact Nat.one_ne_zero) (by rw [if_neg c1]; rfl) (fun H1 h9 => hJg _ H1 h9 hPJ)

set_option maxHeartbeats 1000000 in
set_option maxRecDepth 100000 in
theorem c_X6_requireDoor (l : Launch) (hl9 : l.stackTraces = false) {D : va_G} {cI cC cD cR : ClassId} {sa : sA} {A : Nat → Prop} {AD : Nat → Nat} {u : hS} {G : Nat → Nat} {b hs wy : Nat} {ea ra wd : Int32} {J : Heap → Prop} (hJg : ∀ H H1 : Heap, (∀ q : Nat, q < H.size → H1[q]? = H[q]?) → J H → J H1) (hJo : ∀ H, J H → va_P D vwCl (cOb AD hs wy wd ea ra) H) (hJh : ∀ H, J H → va_P D vwCl (hw cI cD (cAd AD 1) u) H) (hR : hRel u G) (hG : gWf b G) (x : Int32) : vx_Met l yX6_requireDoor wsX6_requireDoor ({ frames := 6, cells := 1, slots := 6, locals := 82 }) (va_Pc [.ref (AD 0), .int x] (tPre D [(cI, .int), (cC, .char), (cD, .object "DoorDialect$Door"), (cR, .object "DoorDialect$House")] nN sa A (J))) (gQXv (if iR x (G 0) then 0 else 1) J A) (xQ ["java/lang/IndexOutOfBoundsException"] (if iR x (G 0) then 0 else 1) J A) 1 6 A := by
  refine nv_metX (cc := cX6_requireDoor) (maxL := 2) (ret := none) (by decide) rfl (Nat.le_of_ble_eq_true rfl) ?_
  intro p0 e0 s m0 args below meth c0 Q hq hargs hnA hout hpre ls hl
  obtain ⟨hx, hb, hr, hts, hown, hlocks, hml⟩ := hnA
  obtain ⟨hP, hT⟩ := hpre
  have hK := hT.1
  have hown : s.vm.findClass RX6 = some m0.cls := hown
  have hPJ : J s.heap := hP
  have hPo := hJo _ hPJ
  have hPh := hJh _ hPJ
  have hl : lv_has ls 2 [(0, .ref (AD 0)), (1, .int x)] := hl
  have hS : va_S A s.heap s.heap [] := va_S.rf
  have in_X6 : ∀ w ∈ wsX60, w ∈ wsX6_requireDoor := by decide +kernel
  have fl_10 := hts (.fieldLink RX6 10 "DoorDialect" "house" "LDoorDialect$House;") (by decide +kernel)
  refine lv_aload_n hx hb dX6_requireDoor_0 rfl (lv_at hl 0 rfl) ?_
  refine va_get (D := D) (ci := 8) (v := .ref ((cAd AD 1) 0)) (C := RX6) (T := TX6) (N := 11) hx hb hts in_X6 hown hK.1 hPo 0 rfl rfl 0 (by decide) fl_10 (fun _ h9 => h9) rfl dX6_requireDoor_1 ?_
  refine lv_iload_n hx hb dX6_requireDoor_4 rfl (lv_at hl 1 rfl) ?_
  refine nv_kS (va_runV (As := [.int x]) (rest := []) ⟨hx, hb, hml, hown, hts⟩ (c_X1_isDoor l hR hG (x)) (cwV 1 hts gX6_requireDoor_X1_isDoor rfl rfl rfl (by decide +kernel) ⟨Nat.le_of_ble_eq_true rfl, Nat.le_of_ble_eq_true rfl⟩) (nt_pV hT hS hPh (va_recv hK.1 hPh (ci := 3) (q0 := 0) rfl rfl)) rfl rfl hl.1 rfl (lv_room (Nat.le_of_ble_eq_true rfl)) dX6_requireDoor_5 ⟨Nat.le_of_ble_eq_true rfl, Nat.le_of_ble_eq_true rfl⟩) ?_
  refine nv_ifb_ne (tgt := 22) hx hb dX6_requireDoor_8 (by decide) (fun c1 => ?_) (fun c1 => ?_)
  · exact nv_retGXv hq hx hb hr hlocks (Nat.le_of_ble_eq_true rfl) (Nat.le_of_ble_eq_true rfl) (if_pos c1) hS (hPJ) dX6_requireDoor_22
  · exact nv_throwW (ws := wsX6_requireDoor) (ik := 182) (is := 413) (ic := 186) (cls := "java/lang/IndexOutOfBoundsException") (text := "there is no such door") (names := ["java/lang/RuntimeException", "java/lang/Exception"]) hq hx hb hl9 hown hts hT xIOOBE_fit ⟨by decide +kernel, by decide +kernel⟩ ⟨by decide +kernel, by decide +kernel⟩ (fun w hw => List.mem_cons_of_mem _ (List.mem_append_right _ hw)) xIOOBE_bad xIOOBE_ok hS (hl.1.trans hml.symm) dX6_requireDoor_11 dX6_requireDoor_14 dX6_requireDoor_15 dX6_requireDoor_18 dX6_requireDoor_21 hout (by decide) (Nat.le_of_ble_eq_true rfl) (Nat.le_of_ble_eq_true rfl) (Nat.le_of_ble_eq_true rfl) hlocks (Nat.le_of_ble_eq_true rfl) (Nat.le_of_ble_eq_true rfl) (by rw [if_neg c1]; exact Nat.one_ne_zero) (by rw [if_neg c1]; rfl) (fun H1 h9 => hJg _ H1 h9 hPJ)
