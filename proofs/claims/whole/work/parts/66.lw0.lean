set_option maxHeartbeats 1000000 in
set_option maxRecDepth 100000 in
theorem c_L_door (l : Launch) (hl9 : l.stackTraces = false) {D : va_G} {cI cC cD cR : ClassId} {sa : sA} {AD : Nat → Nat} {cL cB : ClassId} {o : Nat} (ho : ¬ cRg AD 0 165 o) {G Sv Hi In Le : Nat → Nat} {b hs ch ty wy ln : Nat} {ea ra wd : Int32} (hG : gWf b G) (hI : cInj AD) (hch : ch ≤ 8) (hHw : ∀ j, j < ch → hAt Hi j 0 ≤ 8 ∧ hAt Hi j 1 ≤ 6 ∧ hAt Hi j 2 ≤ 5) (h25 : 25 ≤ b) (hbb : b + 1 < 2 ^ 20) (a g : Int32) (z : Nat) (x y : Int32) (hz : z ≤ 1) : vx_Met l yL_door wsL_door ({ frames := 8, cells := 1, slots := 6, locals := 157 }) (va_Pc [.ref (AD 0), .int a, .int g, .int (nI z), .int x, .int y, .ref o] (lPre D [(cI, .int), (cC, .char), (cD, .object "DoorDialect$Door"), (cR, .object "DoorDialect$House")] nN sa (lA AD o) cL cB (fun H => (cW D cI cC cD cR AD G Sv Hi In Le hs ch ty wy ln ea ra wd) H ∧ outL D cL o (fun _ => True) H))) (gQ (nI ((vDoor G a g z x y).1)) (fun H => (cWv D cI cC cD cR AD G Sv Hi In Le hs ch ty wy ln ea ra wd (vDoor G a g z x y)) H ∧ outL D cL o (fun w9 => ((vDoor G a g z x y).1) = 0 → w9 = (((vDoor G a g z x y).2.2.2.1)).toInt64) H) (lA AD o)) noX 1 6 (lA AD o) := by
  refine nv_metH (cc := cL_door) (maxL := 8) (ret := (some .int)) (hh := [(0, 16, 19, 13), (0, 16, 23, 15), (0, 16, 27, 17)]) (by decide) rfl (Nat.le_of_ble_eq_true rfl) ?_
  intro p0 e0 s m0 args below meth c0 Q hq hargs hnA htb hpre ls hl
  obtain ⟨hx, hb, hr, hts, hown, hlocks, hml⟩ := hnA
  obtain ⟨⟨hP, hO⟩, hT, hX⟩ := hpre
  have hK := hT.1
  have hown : s.vm.findClass RL = some m0.cls := hown
  have hl : lv_has ls 8 [(0, .ref (AD 0)), (1, .int a), (2, .int g), (3, .int (nI z)), (4, .int x), (5, .int y), (6, .ref o)] := hl
  have hS : va_S (lA AD o) s.heap s.heap [] := va_S.rf
  refine lv_aload hx hb dL_door_0 (lv_at hl 6 rfl) ?_
  refine lv_iconst (v := nI 0) hx hb dL_door_2 (by decide) ?_
  refine lv_aload_n hx hb dL_door_3 rfl (lv_at hl 0 rfl) ?_
  refine lv_iload_n hx hb dL_door_4 rfl (lv_at hl 1 rfl) ?_
  refine lv_iload_n hx hb dL_door_5 rfl (lv_at hl 2 rfl) ?_
  refine lv_iload_n hx hb dL_door_6 rfl (lv_at hl 3 rfl) ?_
  refine lv_iload hx hb dL_door_7 (lv_at hl 4 rfl) ?_
  refine lv_iload hx hb dL_door_9 (lv_at hl 5 rfl) ?_
  refine nv_kLX (vx_runV (As := [.int a, .int g, .int (nI z), .int x, .int y]) (rest := [.int (nI 0), .ref o]) ⟨hx, hb, hml, hown, hts⟩ (c_X6_door l hl9 (A := cRg AD 0 165) hG hI cRg_self hch hHw h25 hbb a g z x y hz) (cwV 5 hts gL_door_X6_door rfl rfl rfl (by decide +kernel) ⟨Nat.le_of_ble_eq_true rfl, Nat.le_of_ble_eq_true rfl⟩) (nt_pVn hT hS (fun _ h => Or.inl h) hP (va_recv hK.1 hP.1 (ci := 8) (q0 := 0) rfl rfl)) rfl rfl hl.1 rfl (lv_room (Nat.le_of_ble_eq_true rfl)) dL_door_11 ⟨Nat.le_of_ble_eq_true rfl, Nat.le_of_ble_eq_true rfl⟩) hS (fun _ h => Or.inl h) (fun E ce q9 H1 locs1 h0 hE hP1 hK1 hS1 hcell hv9 hcl => ?_) (fun H1 locs1 h0 hP1 hK1 hS1 => ?_)
  · rcases nv_th3 (t := ((vDoor G a g z x y).1)) h0 (vDoor_n _ _ _ _ _ _) with ht | ht | ht
    · rw [ht] at hE
      have hE : E = "java/lang/IllegalArgumentException" := hE
      subst hE
      refine vx_catch (own := RL) (name := "java/lang/IllegalArgumentException") hown (tableOf []) ⟨0, 16, 19, 13⟩ (tableOf [(0, 16, 23, 15), (0, 16, 27, 17)]) (by rw [htb]; rfl) (fun z hz => nomatch hz) (by decide) (by decide) (hts _ (List.mem_of_getElem? (i := 1) rfl)) (va_Nw.use rfl (hT.2.2.2.2.2.1 _ (by decide +kernel))) hcell hv9 hcl ?_
      refine lv_astore (lv' := [(7, .ref q9), (0, .ref (AD 0)), (1, .int a), (2, .int g), (3, .int (nI z)), (4, .int x), (5, .int y), (6, .ref o)]) hx hb dL_door_19 hl (by decide) rfl (fun ls hl => ?_)
      refine lv_iconst (v := nI 1) hx hb dL_door_21 (by decide) ?_
      exact nv_retL hq hx hb hr hlocks (Nat.le_of_ble_eq_true rfl) (Nat.le_of_ble_eq_true rfl) (by rw [ht]) hS1 ⟨hP1, (hO.kept hK1 ho).imp (fun _ _ z => absurd z h0)⟩ dL_door_22
    · rw [ht] at hE
      have hE : E = "java/lang/IndexOutOfBoundsException" := hE
      subst hE
      have hp0 : (13 : Nat) ≠ 0 ∧ ∃ nm : String, (Cond.classLink RL 13 nm).before args s = true ∧ va_Nc "java/lang/IndexOutOfBoundsException" nm s := ⟨by decide, "java/lang/IllegalArgumentException", hts _ (List.mem_of_getElem? (i := 1) rfl), hX.2 _ (by decide +kernel) _ (by decide +kernel) (by decide +kernel)⟩
      refine vx_catch (own := RL) (name := "java/lang/IndexOutOfBoundsException") hown (tableOf [(0, 16, 19, 13)]) ⟨0, 16, 23, 15⟩ (tableOf [(0, 16, 27, 17)]) (by rw [htb]; rfl) (nv_pass (fun x hx9 => by obtain rfl := List.mem_singleton.mp hx9; exact hp0)) (by decide) (by decide) (hts _ (List.mem_of_getElem? (i := 2) rfl)) (va_Nw.use rfl (hT.2.2.2.2.2.1 _ (by decide +kernel))) hcell hv9 hcl ?_
      refine lv_astore (lv' := [(7, .ref q9), (0, .ref (AD 0)), (1, .int a), (2, .int g), (3, .int (nI z)), (4, .int x), (5, .int y), (6, .ref o)]) hx hb dL_door_23 hl (by decide) rfl (fun ls hl => ?_)
      refine lv_iconst (v := nI 2) hx hb dL_door_25 (by decide) ?_
      exact nv_retL hq hx hb hr hlocks (Nat.le_of_ble_eq_true rfl) (Nat.le_of_ble_eq_true rfl) (by rw [ht]) hS1 ⟨hP1, (hO.kept hK1 ho).imp (fun _ _ z => absurd z h0)⟩ dL_door_26
    · rw [ht] at hE
      have hE : E = "java/lang/UnsupportedOperationException" := hE
      subst hE
      have hp0 : (13 : Nat) ≠ 0 ∧ ∃ nm : String, (Cond.classLink RL 13 nm).before args s = true ∧ va_Nc "java/lang/UnsupportedOperationException" nm s := ⟨by decide, "java/lang/IllegalArgumentException", hts _ (List.mem_of_getElem? (i := 1) rfl), hX.2 _ (by decide +kernel) _ (by decide +kernel) (by decide +kernel)⟩
      have hp1 : (15 : Nat) ≠ 0 ∧ ∃ nm : String, (Cond.classLink RL 15 nm).before args s = true ∧ va_Nc "java/lang/UnsupportedOperationException" nm s := ⟨by decide, "java/lang/IndexOutOfBoundsException", hts _ (List.mem_of_getElem? (i := 2) rfl), hX.2 _ (by decide +kernel) _ (by decide +kernel) (by decide +kernel)⟩
      refine vx_catch (own := RL) (name := "java/lang/UnsupportedOperationException") hown (tableOf [(0, 16, 19, 13), (0, 16, 23, 15)]) ⟨0, 16, 27, 17⟩ (tableOf []) (by rw [htb]; rfl) (nv_pass (fun x hx9 => by rcases List.mem_cons.mp hx9 with rfl | hx9; exact hp0; obtain rfl := List.mem_singleton.mp hx9; exact hp1)) (by decide) (by decide) (hts _ (List.mem_of_getElem? (i := 3) rfl)) (va_Nw.use rfl (hT.2.2.2.2.2.1 _ (by decide +kernel))) hcell hv9 hcl ?_
      refine lv_astore (lv' := [(7, .ref q9), (0, .ref (AD 0)), (1, .int a), (2, .int g), (3, .int (nI z)), (4, .int x), (5, .int y), (6, .ref o)]) hx hb dL_door_27 hl (by decide) rfl (fun ls hl => ?_)
      refine lv_iconst (v := nI 3) hx hb dL_door_29 (by decide) ?_
      exact nv_retL hq hx hb hr hlocks (Nat.le_of_ble_eq_true rfl) (Nat.le_of_ble_eq_true rfl) (by rw [ht]) hS1 ⟨hP1, (hO.kept hK1 ho).imp (fun _ _ z => absurd z h0)⟩ dL_door_30
  · have hO1 := hO.kept hK1 ho
    generalize H1 = H at hP1 hK1 hS1 hO1 ⊢
    refine lv_i2l hx hb dL_door_14 rfl ?_
    refine nv_lastO hx hb hX.1 0 rfl hO1 hS1 (Or.inr rfl) dL_door_15 (fun H2 locs2 hO2 hK2 hS2 => ?_)
    refine lv_goto (tgt := 31) hx hb dL_door_16 (by decide) ?_
    refine lv_iconst (v := nI 0) hx hb dL_door_31 (by decide) ?_
    exact nv_retL hq hx hb hr hlocks (Nat.le_of_ble_eq_true rfl) (Nat.le_of_ble_eq_true rfl) (by rw [h0]) hS2 ⟨cOn_Wv.out ho hK2 hP1, hO2.imp (fun _ z _ => z)⟩ dL_door_32

set_option maxHeartbeats 1000000 in
set_option maxRecDepth 100000 in
theorem c_L_threshold (l : Launch) (hl9 : l.stackTraces = false) {D : va_G} {cI cC cD cR : ClassId} {sa : sA} {AD : Nat → Nat} {cL cB : ClassId} {o : Nat} (ho : ¬ cRg AD 0 165 o) {G Sv Hi In Le : Nat → Nat} {b hs ch ty wy ln : Nat} {ea ra wd : Int32} (hG : gWf b G) (hI : cInj AD) (hch : ch ≤ 8) (hHw : ∀ j, j < ch → hAt Hi j 0 ≤ 8 ∧ hAt Hi j 1 ≤ 6 ∧ hAt Hi j 2 ≤ 5) (h25 : 25 ≤ b) (hbb : b + 1 < 2 ^ 20) (c : Int32) : vx_Met l yL_threshold wsL_threshold ({ frames := 8, cells := 1, slots := 6, locals := 153 }) (va_Pc [.ref (AD 0), .int c, .ref o] (lPre D [(cI, .int), (cC, .char), (cD, .object "DoorDialect$Door"), (cR, .object "DoorDialect$House")] nN sa (lA AD o) cL cB (fun H => (cW D cI cC cD cR AD G Sv Hi In Le hs ch ty wy ln ea ra wd) H ∧ outL D cL o (fun _ => True) H))) (gQ (nI ((vSill G c).1)) (fun H => (cWv D cI cC cD cR AD G Sv Hi In Le hs ch ty wy ln ea ra wd (vSill G c)) H ∧ outL D cL o (fun w9 => ((vSill G c).1) = 0 → w9 = (((vSill G c).2.2.2.1)).toInt64) H) (lA AD o)) noX 1 6 (lA AD o) := by
  refine nv_metH (cc := cL_threshold) (maxL := 4) (ret := (some .int)) (hh := [(0, 9, 12, 13), (0, 9, 15, 17)]) (by decide) rfl (Nat.le_of_ble_eq_true rfl) ?_
  intro p0 e0 s m0 args below meth c0 Q hq hargs hnA htb hpre ls hl
  obtain ⟨hx, hb, hr, hts, hown, hlocks, hml⟩ := hnA
  obtain ⟨⟨hP, hO⟩, hT, hX⟩ := hpre
  have hK := hT.1
  have hown : s.vm.findClass RL = some m0.cls := hown
  have hl : lv_has ls 4 [(0, .ref (AD 0)), (1, .int c), (2, .ref o)] := hl
  have hS : va_S (lA AD o) s.heap s.heap [] := va_S.rf
  refine lv_aload_n hx hb dL_threshold_0 rfl (lv_at hl 2 rfl) ?_
  refine lv_iconst (v := nI 0) hx hb dL_threshold_1 (by decide) ?_
  refine lv_aload_n hx hb dL_threshold_2 rfl (lv_at hl 0 rfl) ?_
  refine lv_iload_n hx hb dL_threshold_3 rfl (lv_at hl 1 rfl) ?_
  refine nv_kLX (vx_runV (As := [.int c]) (rest := [.int (nI 0), .ref o]) ⟨hx, hb, hml, hown, hts⟩ (c_X6_threshold l hl9 (A := cRg AD 0 165) hG hI cRg_self hch hHw h25 hbb c) (cwV 1 hts gL_threshold_X6_threshold rfl rfl rfl (by decide +kernel) ⟨Nat.le_of_ble_eq_true rfl, Nat.le_of_ble_eq_true rfl⟩) (nt_pVn hT hS (fun _ h => Or.inl h) hP (va_recv hK.1 hP.1 (ci := 8) (q0 := 0) rfl rfl)) rfl rfl hl.1 rfl (lv_room (Nat.le_of_ble_eq_true rfl)) dL_threshold_4 ⟨Nat.le_of_ble_eq_true rfl, Nat.le_of_ble_eq_true rfl⟩) hS (fun _ h => Or.inl h) (fun E ce q9 H1 locs1 h0 hE hP1 hK1 hS1 hcell hv9 hcl => ?_) (fun H1 locs1 h0 hP1 hK1 hS1 => ?_)
  · rcases nv_th2 (t := ((vSill G c).1)) h0 (vSill_n2 _ _) with ht | ht
    · rw [ht] at hE
      have hE : E = "java/lang/IllegalArgumentException" := hE
      subst hE
      refine vx_catch (own := RL) (name := "java/lang/IllegalArgumentException") hown (tableOf []) ⟨0, 9, 12, 13⟩ (tableOf [(0, 9, 15, 17)]) (by rw [htb]; rfl) (fun z hz => nomatch hz) (by decide) (by decide) (hts _ (List.mem_of_getElem? (i := 1) rfl)) (va_Nw.use rfl (hT.2.2.2.2.2.1 _ (by decide +kernel))) hcell hv9 hcl ?_
      refine lv_astore_n (lv' := [(3, .ref q9), (0, .ref (AD 0)), (1, .int c), (2, .ref o)]) hx hb dL_threshold_12 rfl hl (by decide) rfl (fun ls hl => ?_)
      refine lv_iconst (v := nI 1) hx hb dL_threshold_13 (by decide) ?_
      exact nv_retL hq hx hb hr hlocks (Nat.le_of_ble_eq_true rfl) (Nat.le_of_ble_eq_true rfl) (by rw [ht]) hS1 ⟨hP1, (hO.kept hK1 ho).imp (fun _ _ z => absurd z h0)⟩ dL_threshold_14
    · rw [ht] at hE
      have hE : E = "java/lang/UnsupportedOperationException" := hE
      subst hE
      have hp0 : (13 : Nat) ≠ 0 ∧ ∃ nm : String, (Cond.classLink RL 13 nm).before args s = true ∧ va_Nc "java/lang/UnsupportedOperationException" nm s := ⟨by decide, "java/lang/IllegalArgumentException", hts _ (List.mem_of_getElem? (i := 1) rfl), hX.2 _ (by decide +kernel) _ (by decide +kernel) (by decide +kernel)⟩
      refine vx_catch (own := RL) (name := "java/lang/UnsupportedOperationException") hown (tableOf [(0, 9, 12, 13)]) ⟨0, 9, 15, 17⟩ (tableOf []) (by rw [htb]; rfl) (nv_pass (fun x hx9 => by obtain rfl := List.mem_singleton.mp hx9; exact hp0)) (by decide) (by decide) (hts _ (List.mem_of_getElem? (i := 2) rfl)) (va_Nw.use rfl (hT.2.2.2.2.2.1 _ (by decide +kernel))) hcell hv9 hcl ?_
      refine lv_astore_n (lv' := [(3, .ref q9), (0, .ref (AD 0)), (1, .int c), (2, .ref o)]) hx hb dL_threshold_15 rfl hl (by decide) rfl (fun ls hl => ?_)
      refine lv_iconst (v := nI 2) hx hb dL_threshold_16 (by decide) ?_
      exact nv_retL hq hx hb hr hlocks (Nat.le_of_ble_eq_true rfl) (Nat.le_of_ble_eq_true rfl) (by rw [ht]) hS1 ⟨hP1, (hO.kept hK1 ho).imp (fun _ _ z => absurd z h0)⟩ dL_threshold_17
  · have hO1 := hO.kept hK1 ho
    generalize H1 = H at hP1 hK1 hS1 hO1 ⊢
    refine lv_i2l hx hb dL_threshold_7 rfl ?_
    refine nv_lastO hx hb hX.1 0 rfl hO1 hS1 (Or.inr rfl) dL_threshold_8 (fun H2 locs2 hO2 hK2 hS2 => ?_)
    refine lv_goto (tgt := 18) hx hb dL_threshold_9 (by decide) ?_
    refine lv_iconst (v := nI 0) hx hb dL_threshold_18 (by decide) ?_
    exact nv_retL hq hx hb hr hlocks (Nat.le_of_ble_eq_true rfl) (Nat.le_of_ble_eq_true rfl) (by rw [h0]) hS2 ⟨cOn_Wv.out ho hK2 hP1, hO2.imp (fun _ z _ => z)⟩ dL_threshold_19

set_option maxHeartbeats 1000000 in
set_option maxRecDepth 100000 in
theorem c_L_govern (l : Launch) (hl9 : l.stackTraces = false) {D : va_G} {cI cC cD cR : ClassId} {sa : sA} {AD : Nat → Nat} {cL cB : ClassId} {o : Nat} (ho : ¬ cRg AD 0 165 o) {G Sv Hi In Le : Nat → Nat} {b hs ch ty wy ln : Nat} {ea ra wd : Int32} (hG : gWf b G) (hI : cInj AD) (hch : ch ≤ 8) (hHw : ∀ j, j < ch → hAt Hi j 0 ≤ 8 ∧ hAt Hi j 1 ≤ 6 ∧ hAt Hi j 2 ≤ 5) (h25 : 25 ≤ b) (hbb : b + 1 < 2 ^ 20) (t c : Int32) : vx_Met l yL_govern wsL_govern ({ frames := 8, cells := 1, slots := 6, locals := 154 }) (va_Pc [.ref (AD 0), .int t, .int c, .ref o] (lPre D [(cI, .int), (cC, .char), (cD, .object "DoorDialect$Door"), (cR, .object "DoorDialect$House")] nN sa (lA AD o) cL cB (fun H => (cW D cI cC cD cR AD G Sv Hi In Le hs ch ty wy ln ea ra wd) H ∧ outL D cL o (fun _ => True) H))) (gQ (nI ((vGovern G t c).1)) (fun H => (cWv D cI cC cD cR AD G Sv Hi In Le hs ch ty wy ln ea ra wd (vGovern G t c)) H ∧ outL D cL o (fun w9 => ((vGovern G t c).1) = 0 → w9 = (((vGovern G t c).2.2.2.1)).toInt64) H) (lA AD o)) noX 1 6 (lA AD o) := by
  refine nv_metH (cc := cL_govern) (maxL := 5) (ret := (some .int)) (hh := [(0, 10, 13, 15), (0, 10, 17, 13), (0, 10, 21, 17)]) (by decide) rfl (Nat.le_of_ble_eq_true rfl) ?_
  intro p0 e0 s m0 args below meth c0 Q hq hargs hnA htb hpre ls hl
  obtain ⟨hx, hb, hr, hts, hown, hlocks, hml⟩ := hnA
  obtain ⟨⟨hP, hO⟩, hT, hX⟩ := hpre
  have hK := hT.1
  have hown : s.vm.findClass RL = some m0.cls := hown
  have hl : lv_has ls 5 [(0, .ref (AD 0)), (1, .int t), (2, .int c), (3, .ref o)] := hl
  have hS : va_S (lA AD o) s.heap s.heap [] := va_S.rf
  refine lv_aload_n hx hb dL_govern_0 rfl (lv_at hl 3 rfl) ?_
  refine lv_iconst (v := nI 0) hx hb dL_govern_1 (by decide) ?_
  refine lv_aload_n hx hb dL_govern_2 rfl (lv_at hl 0 rfl) ?_
  refine lv_iload_n hx hb dL_govern_3 rfl (lv_at hl 1 rfl) ?_
  refine lv_iload_n hx hb dL_govern_4 rfl (lv_at hl 2 rfl) ?_
  refine nv_kLX (vx_runV (As := [.int t, .int c]) (rest := [.int (nI 0), .ref o]) ⟨hx, hb, hml, hown, hts⟩ (c_X6_govern l hl9 (A := cRg AD 0 165) hG hI cRg_self hch hHw h25 hbb t c) (cwV 2 hts gL_govern_X6_govern rfl rfl rfl (by decide +kernel) ⟨Nat.le_of_ble_eq_true rfl, Nat.le_of_ble_eq_true rfl⟩) (nt_pVn hT hS (fun _ h => Or.inl h) hP (va_recv hK.1 hP.1 (ci := 8) (q0 := 0) rfl rfl)) rfl rfl hl.1 rfl (lv_room (Nat.le_of_ble_eq_true rfl)) dL_govern_5 ⟨Nat.le_of_ble_eq_true rfl, Nat.le_of_ble_eq_true rfl⟩) hS (fun _ h => Or.inl h) (fun E ce q9 H1 locs1 h0 hE hP1 hK1 hS1 hcell hv9 hcl => ?_) (fun H1 locs1 h0 hP1 hK1 hS1 => ?_)
  · rcases nv_th3 (t := ((vGovern G t c).1)) h0 (vGovern_n _ _ _) with ht | ht | ht
    · rw [ht] at hE
      have hE : E = "java/lang/IndexOutOfBoundsException" := hE
      subst hE
      refine vx_catch (own := RL) (name := "java/lang/IndexOutOfBoundsException") hown (tableOf []) ⟨0, 10, 13, 15⟩ (tableOf [(0, 10, 17, 13), (0, 10, 21, 17)]) (by rw [htb]; rfl) (fun z hz => nomatch hz) (by decide) (by decide) (hts _ (List.mem_of_getElem? (i := 1) rfl)) (va_Nw.use rfl (hT.2.2.2.2.2.1 _ (by decide +kernel))) hcell hv9 hcl ?_
      refine lv_astore (lv' := [(4, .ref q9), (0, .ref (AD 0)), (1, .int t), (2, .int c), (3, .ref o)]) hx hb dL_govern_13 hl (by decide) rfl (fun ls hl => ?_)
      refine lv_iconst (v := nI 1) hx hb dL_govern_15 (by decide) ?_
      exact nv_retL hq hx hb hr hlocks (Nat.le_of_ble_eq_true rfl) (Nat.le_of_ble_eq_true rfl) (by rw [ht]) hS1 ⟨hP1, (hO.kept hK1 ho).imp (fun _ _ z => absurd z h0)⟩ dL_govern_16
    · rw [ht] at hE
      have hE : E = "java/lang/IllegalArgumentException" := hE
      subst hE
      have hp0 : (15 : Nat) ≠ 0 ∧ ∃ nm : String, (Cond.classLink RL 15 nm).before args s = true ∧ va_Nc "java/lang/IllegalArgumentException" nm s := ⟨by decide, "java/lang/IndexOutOfBoundsException", hts _ (List.mem_of_getElem? (i := 1) rfl), hX.2 _ (by decide +kernel) _ (by decide +kernel) (by decide +kernel)⟩
      refine vx_catch (own := RL) (name := "java/lang/IllegalArgumentException") hown (tableOf [(0, 10, 13, 15)]) ⟨0, 10, 17, 13⟩ (tableOf [(0, 10, 21, 17)]) (by rw [htb]; rfl) (nv_pass (fun x hx9 => by obtain rfl := List.mem_singleton.mp hx9; exact hp0)) (by decide) (by decide) (hts _ (List.mem_of_getElem? (i := 2) rfl)) (va_Nw.use rfl (hT.2.2.2.2.2.1 _ (by decide +kernel))) hcell hv9 hcl ?_
      refine lv_astore (lv' := [(4, .ref q9), (0, .ref (AD 0)), (1, .int t), (2, .int c), (3, .ref o)]) hx hb dL_govern_17 hl (by decide) rfl (fun ls hl => ?_)
      refine lv_iconst (v := nI 2) hx hb dL_govern_19 (by decide) ?_
      exact nv_retL hq hx hb hr hlocks (Nat.le_of_ble_eq_true rfl) (Nat.le_of_ble_eq_true rfl) (by rw [ht]) hS1 ⟨hP1, (hO.kept hK1 ho).imp (fun _ _ z => absurd z h0)⟩ dL_govern_20
    · rw [ht] at hE
      have hE : E = "java/lang/UnsupportedOperationException" := hE
      subst hE
      have hp0 : (15 : Nat) ≠ 0 ∧ ∃ nm : String, (Cond.classLink RL 15 nm).before args s = true ∧ va_Nc "java/lang/UnsupportedOperationException" nm s := ⟨by decide, "java/lang/IndexOutOfBoundsException", hts _ (List.mem_of_getElem? (i := 1) rfl), hX.2 _ (by decide +kernel) _ (by decide +kernel) (by decide +kernel)⟩
      have hp1 : (13 : Nat) ≠ 0 ∧ ∃ nm : String, (Cond.classLink RL 13 nm).before args s = true ∧ va_Nc "java/lang/UnsupportedOperationException" nm s := ⟨by decide, "java/lang/IllegalArgumentException", hts _ (List.mem_of_getElem? (i := 2) rfl), hX.2 _ (by decide +kernel) _ (by decide +kernel) (by decide +kernel)⟩
      refine vx_catch (own := RL) (name := "java/lang/UnsupportedOperationException") hown (tableOf [(0, 10, 13, 15), (0, 10, 17, 13)]) ⟨0, 10, 21, 17⟩ (tableOf []) (by rw [htb]; rfl) (nv_pass (fun x hx9 => by rcases List.mem_cons.mp hx9 with rfl | hx9; exact hp0; obtain rfl := List.mem_singleton.mp hx9; exact hp1)) (by decide) (by decide) (hts _ (List.mem_of_getElem? (i := 3) rfl)) (va_Nw.use rfl (hT.2.2.2.2.2.1 _ (by decide +kernel))) hcell hv9 hcl ?_
      refine lv_astore (lv' := [(4, .ref q9), (0, .ref (AD 0)), (1, .int t), (2, .int c), (3, .ref o)]) hx hb dL_govern_21 hl (by decide) rfl (fun ls hl => ?_)
      refine lv_iconst (v := nI 3) hx hb dL_govern_23 (by decide) ?_
      exact nv_retL hq hx hb hr hlocks (Nat.le_of_ble_eq_true rfl) (Nat.le_of_ble_eq_true rfl) (by rw [ht]) hS1 ⟨hP1, (hO.kept hK1 ho).imp (fun _ _ z => absurd z h0)⟩ dL_govern_24
  · have hO1 := hO.kept hK1 ho
    generalize H1 = H at hP1 hK1 hS1 hO1 ⊢
    refine lv_i2l hx hb dL_govern_8 rfl ?_
    refine nv_lastO hx hb hX.1 0 rfl hO1 hS1 (Or.inr rfl) dL_govern_9 (fun H2 locs2 hO2 hK2 hS2 => ?_)
    refine lv_goto (tgt := 25) hx hb dL_govern_10 (by decide) ?_
    refine lv_iconst (v := nI 0) hx hb dL_govern_25 (by decide) ?_
    exact nv_retL hq hx hb hr hlocks (Nat.le_of_ble_eq_true rfl) (Nat.le_of_ble_eq_true rfl) (by rw [h0]) hS2 ⟨cOn_Wv.out ho hK2 hP1, hO2.imp (fun _ z _ => z)⟩ dL_govern_26

set_option maxHeartbeats 1000000 in
set_option maxRecDepth 100000 in
theorem c_L_set (l : Launch) (hl9 : l.stackTraces = false) {D : va_G} {cI cC cD cR : ClassId} {sa : sA} {AD : Nat → Nat} {cL cB : ClassId} {o : Nat} (ho : ¬ cRg AD 0 165 o) {G Sv Hi In Le : Nat → Nat} {b hs ch ty wy ln : Nat} {ea ra wd : Int32} (hG : gWf b G) (hI : cInj AD) (hch : ch ≤ 8) (hHw : ∀ j, j < ch → hAt Hi j 0 ≤ 8 ∧ hAt Hi j 1 ≤ 6 ∧ hAt Hi j 2 ≤ 5) (h25 : 25 ≤ b) (hbb : b + 1 < 2 ^ 20) (d t : Int32) : vx_Met l yL_set wsL_set ({ frames := 8, cells := 1, slots := 6, locals := 154 }) (va_Pc [.ref (AD 0), .int d, .int t, .ref o] (lPre D [(cI, .int), (cC, .char), (cD, .object "DoorDialect$Door"), (cR, .object "DoorDialect$House")] nN sa (lA AD o) cL cB (fun H => (cW D cI cC cD cR AD G Sv Hi In Le hs ch ty wy ln ea ra wd) H ∧ outL D cL o (fun _ => True) H))) (gQ (nI ((vSet G d t).1)) (fun H => (cWv D cI cC cD cR AD G Sv Hi In Le hs ch ty wy ln ea ra wd (vSet G d t)) H ∧ outL D cL o (fun w9 => ((vSet G d t).1) = 0 → w9 = (((vSet G d t).2.2.2.1)).toInt64) H) (lA AD o)) noX 1 6 (lA AD o) := by
  refine nv_metH (cc := cL_set) (maxL := 5) (ret := (some .int)) (hh := [(0, 10, 13, 15), (0, 10, 17, 17)]) (by decide) rfl (Nat.le_of_ble_eq_true rfl) ?_
  intro p0 e0 s m0 args below meth c0 Q hq hargs hnA htb hpre ls hl
  obtain ⟨hx, hb, hr, hts, hown, hlocks, hml⟩ := hnA
  obtain ⟨⟨hP, hO⟩, hT, hX⟩ := hpre
  have hK := hT.1
  have hown : s.vm.findClass RL = some m0.cls := hown
  have hl : lv_has ls 5 [(0, .ref (AD 0)), (1, .int d), (2, .int t), (3, .ref o)] := hl
  have hS : va_S (lA AD o) s.heap s.heap [] := va_S.rf
  refine lv_aload_n hx hb dL_set_0 rfl (lv_at hl 3 rfl) ?_
  refine lv_iconst (v := nI 0) hx hb dL_set_1 (by decide) ?_
  refine lv_aload_n hx hb dL_set_2 rfl (lv_at hl 0 rfl) ?_
  refine lv_iload_n hx hb dL_set_3 rfl (lv_at hl 1 rfl) ?_
  refine lv_iload_n hx hb dL_set_4 rfl (lv_at hl 2 rfl) ?_
  refine nv_kLX (vx_runV (As := [.int d, .int t]) (rest := [.int (nI 0), .ref o]) ⟨hx, hb, hml, hown, hts⟩ (c_X6_set l hl9 (A := cRg AD 0 165) hG hI cRg_self hch hHw h25 hbb d t) (cwV 2 hts gL_set_X6_set rfl rfl rfl (by decide +kernel) ⟨Nat.le_of_ble_eq_true rfl, Nat.le_of_ble_eq_true rfl⟩) (nt_pVn hT hS (fun _ h => Or.inl h) hP (va_recv hK.1 hP.1 (ci := 8) (q0 := 0) rfl rfl)) rfl rfl hl.1 rfl (lv_room (Nat.le_of_ble_eq_true rfl)) dL_set_5 ⟨Nat.le_of_ble_eq_true rfl, Nat.le_of_ble_eq_true rfl⟩) hS (fun _ h => Or.inl h) (fun E ce q9 H1 locs1 h0 hE hP1 hK1 hS1 hcell hv9 hcl => ?_) (fun H1 locs1 h0 hP1 hK1 hS1 => ?_)
  · rcases nv_th2 (t := ((vSet G d t).1)) h0 (vSet_n2 _ _ _) with ht | ht
    · rw [ht] at hE
      have hE : E = "java/lang/IndexOutOfBoundsException" := hE
      subst hE
      refine vx_catch (own := RL) (name := "java/lang/IndexOutOfBoundsException") hown (tableOf []) ⟨0, 10, 13, 15⟩ (tableOf [(0, 10, 17, 17)]) (by rw [htb]; rfl) (fun z hz => nomatch hz) (by decide) (by decide) (hts _ (List.mem_of_getElem? (i := 1) rfl)) (va_Nw.use rfl (hT.2.2.2.2.2.1 _ (by decide +kernel))) hcell hv9 hcl ?_
      refine lv_astore (lv' := [(4, .ref q9), (0, .ref (AD 0)), (1, .int d), (2, .int t), (3, .ref o)]) hx hb dL_set_13 hl (by decide) rfl (fun ls hl => ?_)
      refine lv_iconst (v := nI 1) hx hb dL_set_15 (by decide) ?_
      exact nv_retL hq hx hb hr hlocks (Nat.le_of_ble_eq_true rfl) (Nat.le_of_ble_eq_true rfl) (by rw [ht]) hS1 ⟨hP1, (hO.kept hK1 ho).imp (fun _ _ z => absurd z h0)⟩ dL_set_16
    · rw [ht] at hE
      have hE : E = "java/lang/UnsupportedOperationException" := hE
      subst hE
      have hp0 : (15 : Nat) ≠ 0 ∧ ∃ nm : String, (Cond.classLink RL 15 nm).before args s = true ∧ va_Nc "java/lang/UnsupportedOperationException" nm s := ⟨by decide, "java/lang/IndexOutOfBoundsException", hts _ (List.mem_of_getElem? (i := 1) rfl), hX.2 _ (by decide +kernel) _ (by decide +kernel) (by decide +kernel)⟩
      refine vx_catch (own := RL) (name := "java/lang/UnsupportedOperationException") hown (tableOf [(0, 10, 13, 15)]) ⟨0, 10, 17, 17⟩ (tableOf []) (by rw [htb]; rfl) (nv_pass (fun x hx9 => by obtain rfl := List.mem_singleton.mp hx9; exact hp0)) (by decide) (by decide) (hts _ (List.mem_of_getElem? (i := 2) rfl)) (va_Nw.use rfl (hT.2.2.2.2.2.1 _ (by decide +kernel))) hcell hv9 hcl ?_
      refine lv_astore (lv' := [(4, .ref q9), (0, .ref (AD 0)), (1, .int d), (2, .int t), (3, .ref o)]) hx hb dL_set_17 hl (by decide) rfl (fun ls hl => ?_)
      refine lv_iconst (v := nI 2) hx hb dL_set_19 (by decide) ?_
      exact nv_retL hq hx hb hr hlocks (Nat.le_of_ble_eq_true rfl) (Nat.le_of_ble_eq_true rfl) (by rw [ht]) hS1 ⟨hP1, (hO.kept hK1 ho).imp (fun _ _ z => absurd z h0)⟩ dL_set_20
  · have hO1 := hO.kept hK1 ho
    generalize H1 = H at hP1 hK1 hS1 hO1 ⊢
    refine lv_i2l hx hb dL_set_8 rfl ?_
    refine nv_lastO hx hb hX.1 0 rfl hO1 hS1 (Or.inr rfl) dL_set_9 (fun H2 locs2 hO2 hK2 hS2 => ?_)
    refine lv_goto (tgt := 21) hx hb dL_set_10 (by decide) ?_
    refine lv_iconst (v := nI 0) hx hb dL_set_21 (by decide) ?_
    exact nv_retL hq hx hb hr hlocks (Nat.le_of_ble_eq_true rfl) (Nat.le_of_ble_eq_true rfl) (by rw [h0]) hS2 ⟨cOn_Wv.out ho hK2 hP1, hO2.imp (fun _ z _ => z)⟩ dL_set_22

set_option maxHeartbeats 1000000 in
set_option maxRecDepth 100000 in
theorem c_L_tellEnding (l : Launch) (hl9 : l.stackTraces = false) {D : va_G} {cI cC cD cR : ClassId} {sa : sA} {AD : Nat → Nat} {cL cB : ClassId} {o : Nat} (ho : ¬ cRg AD 0 165 o) {G Sv Hi In Le : Nat → Nat} {b hs ch ty wy ln : Nat} {ea ra wd : Int32} (hG : gWf b G) (hI : cInj AD) (hch : ch ≤ 8) (hHw : ∀ j, j < ch → hAt Hi j 0 ≤ 8 ∧ hAt Hi j 1 ≤ 6 ∧ hAt Hi j 2 ≤ 5) (h25 : 25 ≤ b) (hbb : b + 1 < 2 ^ 20) (a c : Int32) (z : Nat) (x : Int32) (hz : z ≤ 1) : vx_Met l yL_tellEnding wsL_tellEnding ({ frames := 8, cells := 1, slots := 6, locals := 156 }) (va_Pc [.ref (AD 0), .int a, .int c, .int (nI z), .int x, .ref o] (lPre D [(cI, .int), (cC, .char), (cD, .object "DoorDialect$Door"), (cR, .object "DoorDialect$House")] nN sa (lA AD o) cL cB (fun H => (cW D cI cC cD cR AD G Sv Hi In Le hs ch ty wy ln ea ra wd) H ∧ outL D cL o (fun _ => True) H))) (gQ (nI ((vTell G a c z x).1)) (fun H => (cWv D cI cC cD cR AD G Sv Hi In Le hs ch ty wy ln ea ra wd (vTell G a c z x)) H ∧ outL D cL o (fun w9 => ((vTell G a c z x).1) = 0 → w9 = (((vTell G a c z x).2.2.2.1)).toInt64) H) (lA AD o)) noX 1 6 (lA AD o) := by
  refine nv_metH (cc := cL_tellEnding) (maxL := 7) (ret := (some .int)) (hh := [(0, 14, 17, 13), (0, 14, 21, 17)]) (by decide) rfl (Nat.le_of_ble_eq_true rfl) ?_
  intro p0 e0 s m0 args below meth c0 Q hq hargs hnA htb hpre ls hl
  obtain ⟨hx, hb, hr, hts, hown, hlocks, hml⟩ := hnA
  obtain ⟨⟨hP, hO⟩, hT, hX⟩ := hpre
  have hK := hT.1
  have hown : s.vm.findClass RL = some m0.cls := hown
  have hl : lv_has ls 7 [(0, .ref (AD 0)), (1, .int a), (2, .int c), (3, .int (nI z)), (4, .int x), (5, .ref o)] := hl
  have hS : va_S (lA AD o) s.heap s.heap [] := va_S.rf
  refine lv_aload hx hb dL_tellEnding_0 (lv_at hl 5 rfl) ?_
  refine lv_iconst (v := nI 0) hx hb dL_tellEnding_2 (by decide) ?_
  refine lv_aload_n hx hb dL_tellEnding_3 rfl (lv_at hl 0 rfl) ?_
  refine lv_iload_n hx hb dL_tellEnding_4 rfl (lv_at hl 1 rfl) ?_
  refine lv_iload_n hx hb dL_tellEnding_5 rfl (lv_at hl 2 rfl) ?_
  refine lv_iload_n hx hb dL_tellEnding_6 rfl (lv_at hl 3 rfl) ?_
  refine lv_iload hx hb dL_tellEnding_7 (lv_at hl 4 rfl) ?_
  refine nv_kLX (vx_runV (As := [.int a, .int c, .int (nI z), .int x]) (rest := [.int (nI 0), .ref o]) ⟨hx, hb, hml, hown, hts⟩ (c_X6_tellEnding l hl9 (A := cRg AD 0 165) hG hI cRg_self hch hHw h25 hbb a c z x hz) (cwV 4 hts gL_tellEnding_X6_tellEnding rfl rfl rfl (by decide +kernel) ⟨Nat.le_of_ble_eq_true rfl, Nat.le_of_ble_eq_true rfl⟩) (nt_pVn hT hS (fun _ h => Or.inl h) hP (va_recv hK.1 hP.1 (ci := 8) (q0 := 0) rfl rfl)) rfl rfl hl.1 rfl (lv_room (Nat.le_of_ble_eq_true rfl)) dL_tellEnding_9 ⟨Nat.le_of_ble_eq_true rfl, Nat.le_of_ble_eq_true rfl⟩) hS (fun _ h => Or.inl h) (fun E ce q9 H1 locs1 h0 hE hP1 hK1 hS1 hcell hv9 hcl => ?_) (fun H1 locs1 h0 hP1 hK1 hS1 => ?_)
  · rcases nv_th2 (t := ((vTell G a c z x).1)) h0 (vTell_n2 _ _ _ _ _) with ht | ht
    · rw [ht] at hE
      have hE : E = "java/lang/IllegalArgumentException" := hE
      subst hE
      refine vx_catch (own := RL) (name := "java/lang/IllegalArgumentException") hown (tableOf []) ⟨0, 14, 17, 13⟩ (tableOf [(0, 14, 21, 17)]) (by rw [htb]; rfl) (fun z hz => nomatch hz) (by decide) (by decide) (hts _ (List.mem_of_getElem? (i := 1) rfl)) (va_Nw.use rfl (hT.2.2.2.2.2.1 _ (by decide +kernel))) hcell hv9 hcl ?_
      refine lv_astore (lv' := [(6, .ref q9), (0, .ref (AD 0)), (1, .int a), (2, .int c), (3, .int (nI z)), (4, .int x), (5, .ref o)]) hx hb dL_tellEnding_17 hl (by decide) rfl (fun ls hl => ?_)
      refine lv_iconst (v := nI 1) hx hb dL_tellEnding_19 (by decide) ?_
      exact nv_retL hq hx hb hr hlocks (Nat.le_of_ble_eq_true rfl) (Nat.le_of_ble_eq_true rfl) (by rw [ht]) hS1 ⟨hP1, (hO.kept hK1 ho).imp (fun _ _ z => absurd z h0)⟩ dL_tellEnding_20
    · rw [ht] at hE
      have hE : E = "java/lang/UnsupportedOperationException" := hE
      subst hE
      have hp0 : (13 : Nat) ≠ 0 ∧ ∃ nm : String, (Cond.classLink RL 13 nm).before args s = true ∧ va_Nc "java/lang/UnsupportedOperationException" nm s := ⟨by decide, "java/lang/IllegalArgumentException", hts _ (List.mem_of_getElem? (i := 1) rfl), hX.2 _ (by decide +kernel) _ (by decide +kernel) (by decide +kernel)⟩
      refine vx_catch (own := RL) (name := "java/lang/UnsupportedOperationException") hown (tableOf [(0, 14, 17, 13)]) ⟨0, 14, 21, 17⟩ (tableOf []) (by rw [htb]; rfl) (nv_pass (fun x hx9 => by obtain rfl := List.mem_singleton.mp hx9; exact hp0)) (by decide) (by decide) (hts _ (List.mem_of_getElem? (i := 2) rfl)) (va_Nw.use rfl (hT.2.2.2.2.2.1 _ (by decide +kernel))) hcell hv9 hcl ?_
      refine lv_astore (lv' := [(6, .ref q9), (0, .ref (AD 0)), (1, .int a), (2, .int c), (3, .int (nI z)), (4, .int x), (5, .ref o)]) hx hb dL_tellEnding_21 hl (by decide) rfl (fun ls hl => ?_)
      refine lv_iconst (v := nI 2) hx hb dL_tellEnding_23 (by decide) ?_
      exact nv_retL hq hx hb hr hlocks (Nat.le_of_ble_eq_true rfl) (Nat.le_of_ble_eq_true rfl) (by rw [ht]) hS1 ⟨hP1, (hO.kept hK1 ho).imp (fun _ _ z => absurd z h0)⟩ dL_tellEnding_24
  · have hO1 := hO.kept hK1 ho
    generalize H1 = H at hP1 hK1 hS1 hO1 ⊢
    refine lv_i2l hx hb dL_tellEnding_12 rfl ?_
    refine nv_lastO hx hb hX.1 0 rfl hO1 hS1 (Or.inr rfl) dL_tellEnding_13 (fun H2 locs2 hO2 hK2 hS2 => ?_)
    refine lv_goto (tgt := 25) hx hb dL_tellEnding_14 (by decide) ?_
    refine lv_iconst (v := nI 0) hx hb dL_tellEnding_25 (by decide) ?_
    exact nv_retL hq hx hb hr hlocks (Nat.le_of_ble_eq_true rfl) (Nat.le_of_ble_eq_true rfl) (by rw [h0]) hS2 ⟨cOn_Wv.out ho hK2 hP1, hO2.imp (fun _ z _ => z)⟩ dL_tellEnding_26

set_option maxHeartbeats 1000000 in
set_option maxRecDepth 100000 in
theorem c_L_key (l : Launch) (hl9 : l.stackTraces = false) {D : va_G} {cI cC cD cR : ClassId} {sa : sA} {AD : Nat → Nat} {cL cB : ClassId} {o : Nat} (ho : ¬ cRg AD 0 165 o) {G Sv Hi In Le : Nat → Nat} {b hs ch ty wy ln : Nat} {ea ra wd : Int32} (hG : gWf b G) (hI : cInj AD) (hch : ch ≤ 8) (hHw : ∀ j, j < ch → hAt Hi j 0 ≤ 8 ∧ hAt Hi j 1 ≤ 6 ∧ hAt Hi j 2 ≤ 5) (h25 : 25 ≤ b) (hbb : b + 1 < 2 ^ 20) (a g : Int32) : vx_Met l yL_key wsL_key ({ frames := 8, cells := 1, slots := 6, locals := 154 }) (va_Pc [.ref (AD 0), .int a, .int g, .ref o] (lPre D [(cI, .int), (cC, .char), (cD, .object "DoorDialect$Door"), (cR, .object "DoorDialect$House")] nN sa (lA AD o) cL cB (fun H => (cW D cI cC cD cR AD G Sv Hi In Le hs ch ty wy ln ea ra wd) H ∧ outL D cL o (fun _ => True) H))) (gQ (nI ((vKey G a g).1)) (fun H => (cWv D cI cC cD cR AD G Sv Hi In Le hs ch ty wy ln ea ra wd (vKey G a g)) H ∧ outL D cL o (fun w9 => ((vKey G a g).1) = 0 → w9 = (((vKey G a g).2.2.2.1)).toInt64) H) (lA AD o)) noX 1 6 (lA AD o) := by
  refine nv_metH (cc := cL_key) (maxL := 5) (ret := (some .int)) (hh := [(0, 10, 13, 13), (0, 10, 17, 17)]) (by decide) rfl (Nat.le_of_ble_eq_true rfl) ?_
  intro p0 e0 s m0 args below meth c0 Q hq hargs hnA htb hpre ls hl
  obtain ⟨hx, hb, hr, hts, hown, hlocks, hml⟩ := hnA
  obtain ⟨⟨hP, hO⟩, hT, hX⟩ := hpre
  have hK := hT.1
  have hown : s.vm.findClass RL = some m0.cls := hown
  have hl : lv_has ls 5 [(0, .ref (AD 0)), (1, .int a), (2, .int g), (3, .ref o)] := hl
  have hS : va_S (lA AD o) s.heap s.heap [] := va_S.rf
  refine lv_aload_n hx hb dL_key_0 rfl (lv_at hl 3 rfl) ?_
  refine lv_iconst (v := nI 0) hx hb dL_key_1 (by decide) ?_
  refine lv_aload_n hx hb dL_key_2 rfl (lv_at hl 0 rfl) ?_
  refine lv_iload_n hx hb dL_key_3 rfl (lv_at hl 1 rfl) ?_
  refine lv_iload_n hx hb dL_key_4 rfl (lv_at hl 2 rfl) ?_
  refine nv_kLX (vx_runV (As := [.int a, .int g]) (rest := [.int (nI 0), .ref o]) ⟨hx, hb, hml, hown, hts⟩ (c_X6_key l hl9 (A := cRg AD 0 165) hG hI cRg_self hch hHw h25 hbb a g) (cwV 2 hts gL_key_X6_key rfl rfl rfl (by decide +kernel) ⟨Nat.le_of_ble_eq_true rfl, Nat.le_of_ble_eq_true rfl⟩) (nt_pVn hT hS (fun _ h => Or.inl h) hP (va_recv hK.1 hP.1 (ci := 8) (q0 := 0) rfl rfl)) rfl rfl hl.1 rfl (lv_room (Nat.le_of_ble_eq_true rfl)) dL_key_5 ⟨Nat.le_of_ble_eq_true rfl, Nat.le_of_ble_eq_true rfl⟩) hS (fun _ h => Or.inl h) (fun E ce q9 H1 locs1 h0 hE hP1 hK1 hS1 hcell hv9 hcl => ?_) (fun H1 locs1 h0 hP1 hK1 hS1 => ?_)
  · rcases nv_th2 (t := ((vKey G a g).1)) h0 (vKey_n2 _ _ _) with ht | ht
    · rw [ht] at hE
      have hE : E = "java/lang/IllegalArgumentException" := hE
      subst hE
      refine vx_catch (own := RL) (name := "java/lang/IllegalArgumentException") hown (tableOf []) ⟨0, 10, 13, 13⟩ (tableOf [(0, 10, 17, 17)]) (by rw [htb]; rfl) (fun z hz => nomatch hz) (by decide) (by decide) (hts _ (List.mem_of_getElem? (i := 1) rfl)) (va_Nw.use rfl (hT.2.2.2.2.2.1 _ (by decide +kernel))) hcell hv9 hcl ?_
      refine lv_astore (lv' := [(4, .ref q9), (0, .ref (AD 0)), (1, .int a), (2, .int g), (3, .ref o)]) hx hb dL_key_13 hl (by decide) rfl (fun ls hl => ?_)
      refine lv_iconst (v := nI 1) hx hb dL_key_15 (by decide) ?_
      exact nv_retL hq hx hb hr hlocks (Nat.le_of_ble_eq_true rfl) (Nat.le_of_ble_eq_true rfl) (by rw [ht]) hS1 ⟨hP1, (hO.kept hK1 ho).imp (fun _ _ z => absurd z h0)⟩ dL_key_16
    · rw [ht] at hE
      have hE : E = "java/lang/UnsupportedOperationException" := hE
      subst hE
      have hp0 : (13 : Nat) ≠ 0 ∧ ∃ nm : String, (Cond.classLink RL 13 nm).before args s = true ∧ va_Nc "java/lang/UnsupportedOperationException" nm s := ⟨by decide, "java/lang/IllegalArgumentException", hts _ (List.mem_of_getElem? (i := 1) rfl), hX.2 _ (by decide +kernel) _ (by decide +kernel) (by decide +kernel)⟩
      refine vx_catch (own := RL) (name := "java/lang/UnsupportedOperationException") hown (tableOf [(0, 10, 13, 13)]) ⟨0, 10, 17, 17⟩ (tableOf []) (by rw [htb]; rfl) (nv_pass (fun x hx9 => by obtain rfl := List.mem_singleton.mp hx9; exact hp0)) (by decide) (by decide) (hts _ (List.mem_of_getElem? (i := 2) rfl)) (va_Nw.use rfl (hT.2.2.2.2.2.1 _ (by decide +kernel))) hcell hv9 hcl ?_
      refine lv_astore (lv' := [(4, .ref q9), (0, .ref (AD 0)), (1, .int a), (2, .int g), (3, .ref o)]) hx hb dL_key_17 hl (by decide) rfl (fun ls hl => ?_)
      refine lv_iconst (v := nI 2) hx hb dL_key_19 (by decide) ?_
      exact nv_retL hq hx hb hr hlocks (Nat.le_of_ble_eq_true rfl) (Nat.le_of_ble_eq_true rfl) (by rw [ht]) hS1 ⟨hP1, (hO.kept hK1 ho).imp (fun _ _ z => absurd z h0)⟩ dL_key_20
  · have hO1 := hO.kept hK1 ho
    generalize H1 = H at hP1 hK1 hS1 hO1 ⊢
    refine lv_i2l hx hb dL_key_8 rfl ?_
    refine nv_lastO hx hb hX.1 0 rfl hO1 hS1 (Or.inr rfl) dL_key_9 (fun H2 locs2 hO2 hK2 hS2 => ?_)
    refine lv_goto (tgt := 21) hx hb dL_key_10 (by decide) ?_
    refine lv_iconst (v := nI 0) hx hb dL_key_21 (by decide) ?_
    exact nv_retL hq hx hb hr hlocks (Nat.le_of_ble_eq_true rfl) (Nat.le_of_ble_eq_true rfl) (by rw [h0]) hS2 ⟨cOn_Wv.out ho hK2 hP1, hO2.imp (fun _ z _ => z)⟩ dL_key_22

set_option maxHeartbeats 1000000 in
set_option maxRecDepth 100000 in
theorem c_L_doorOf (l : Launch) (hl9 : l.stackTraces = false) {D : va_G} {cI cC cD cR : ClassId} {sa : sA} {AD : Nat → Nat} {cL cB : ClassId} {o : Nat} (ho : ¬ cRg AD 0 165 o) {G Sv Hi In Le : Nat → Nat} {b hs ch ty wy ln : Nat} {ea ra wd : Int32} (hG : gWf b G) (hI : cInj AD) (d w : Int32) : vx_Met l yL_doorOf wsL_doorOf ({ frames := 8, cells := 2, slots := 12, locals := 126 }) (va_Pc [.ref (AD 0), .int d, .int w, .ref o] (lPre D [(cI, .int), (cC, .char), (cD, .object "DoorDialect$Door"), (cR, .object "DoorDialect$House")] nN sa (lA AD o) cL cB (fun H => (cW D cI cC cD cR AD G Sv Hi In Le hs ch ty wy ln ea ra wd) H ∧ outL D cL o (fun _ => True) H))) (gQ (nI (if iR d (G 0) then (if iR w 11 then 0 else 2) else 1)) (fun H => (cW D cI cC cD cR AD G Sv Hi In Le hs ch ty wy ln ea ra wd) H ∧ outL D cL o (fun w9 => (if iR d (G 0) then (if iR w 11 then 0 else 2) else 1) = 0 → w9 = (((if iR d (G 0) then (if iR w 11 then qDoor G (tN d) (tN w) else 0) else 0))).toInt64) H) (lA AD o)) noX 2 12 (lA AD o) := by
  refine nv_metH (cc := cL_doorOf) (maxL := 5) (ret := (some .int)) (hh := [(0, 10, 13, 15), (0, 10, 17, 13)]) (by decide) rfl (Nat.le_of_ble_eq_true rfl) ?_
  intro p0 e0 s m0 args below meth c0 Q hq hargs hnA htb hpre ls hl
  obtain ⟨hx, hb, hr, hts, hown, hlocks, hml⟩ := hnA
  obtain ⟨⟨hP, hO⟩, hT, hX⟩ := hpre
  have hK := hT.1
  have hown : s.vm.findClass RL = some m0.cls := hown
  have hl : lv_has ls 5 [(0, .ref (AD 0)), (1, .int d), (2, .int w), (3, .ref o)] := hl
  have hS : va_S (lA AD o) s.heap s.heap [] := va_S.rf
  refine lv_aload_n hx hb dL_doorOf_0 rfl (lv_at hl 3 rfl) ?_
  refine lv_iconst (v := nI 0) hx hb dL_doorOf_1 (by decide) ?_
  refine lv_aload_n hx hb dL_doorOf_2 rfl (lv_at hl 0 rfl) ?_
  refine lv_iload_n hx hb dL_doorOf_3 rfl (lv_at hl 1 rfl) ?_
  refine lv_iload_n hx hb dL_doorOf_4 rfl (lv_at hl 2 rfl) ?_
  refine nv_kLX (vx_runV (As := [.int d, .int w]) (rest := [.int (nI 0), .ref o]) ⟨hx, hb, hml, hown, hts⟩ (c_X6_doorOf l hl9 (A := cRg AD 0 165) hG hI cRg_self d w) (cwV 2 hts gL_doorOf_X6_doorOf rfl rfl rfl (by decide +kernel) ⟨Nat.le_of_ble_eq_true rfl, Nat.le_of_ble_eq_true rfl⟩) (nt_pVn hT hS (fun _ h => Or.inl h) hP (va_recv hK.1 hP.1 (ci := 8) (q0 := 0) rfl rfl)) rfl rfl hl.1 rfl (lv_room (Nat.le_of_ble_eq_true rfl)) dL_doorOf_5 ⟨Nat.le_of_ble_eq_true rfl, Nat.le_of_ble_eq_true rfl⟩) hS (fun _ h => Or.inl h) (fun E ce q9 H1 locs1 h0 hE hP1 hK1 hS1 hcell hv9 hcl => ?_) (fun H1 locs1 h0 hP1 hK1 hS1 => ?_)
  · rcases nv_th2 (t := (if iR d (G 0) then (if iR w 11 then 0 else 2) else 1)) h0 (by (repeat' split) <;> decide) with ht | ht
    · rw [ht] at hE
      have hE : E = "java/lang/IndexOutOfBoundsException" := hE
      subst hE
      refine vx_catch (own := RL) (name := "java/lang/IndexOutOfBoundsException") hown (tableOf []) ⟨0, 10, 13, 15⟩ (tableOf [(0, 10, 17, 13)]) (by rw [htb]; rfl) (fun z hz => nomatch hz) (by decide) (by decide) (hts _ (List.mem_of_getElem? (i := 1) rfl)) (va_Nw.use rfl (hT.2.2.2.2.2.1 _ (by decide +kernel))) hcell hv9 hcl ?_
      refine lv_astore (lv' := [(4, .ref q9), (0, .ref (AD 0)), (1, .int d), (2, .int w), (3, .ref o)]) hx hb dL_doorOf_13 hl (by decide) rfl (fun ls hl => ?_)
      refine lv_iconst (v := nI 1) hx hb dL_doorOf_15 (by decide) ?_
      exact nv_retL hq hx hb hr hlocks (Nat.le_of_ble_eq_true rfl) (Nat.le_of_ble_eq_true rfl) (by rw [ht]) hS1 ⟨hP1, (hO.kept hK1 ho).imp (fun _ _ z => absurd z h0)⟩ dL_doorOf_16
    · rw [ht] at hE
      have hE : E = "java/lang/IllegalArgumentException" := hE
      subst hE
      have hp0 : (15 : Nat) ≠ 0 ∧ ∃ nm : String, (Cond.classLink RL 15 nm).before args s = true ∧ va_Nc "java/lang/IllegalArgumentException" nm s := ⟨by decide, "java/lang/IndexOutOfBoundsException", hts _ (List.mem_of_getElem? (i := 1) rfl), hX.2 _ (by decide +kernel) _ (by decide +kernel) (by decide +kernel)⟩
      refine vx_catch (own := RL) (name := "java/lang/IllegalArgumentException") hown (tableOf [(0, 10, 13, 15)]) ⟨0, 10, 17, 13⟩ (tableOf []) (by rw [htb]; rfl) (nv_pass (fun x hx9 => by obtain rfl := List.mem_singleton.mp hx9; exact hp0)) (by decide) (by decide) (hts _ (List.mem_of_getElem? (i := 2) rfl)) (va_Nw.use rfl (hT.2.2.2.2.2.1 _ (by decide +kernel))) hcell hv9 hcl ?_
      refine lv_astore (lv' := [(4, .ref q9), (0, .ref (AD 0)), (1, .int d), (2, .int w), (3, .ref o)]) hx hb dL_doorOf_17 hl (by decide) rfl (fun ls hl => ?_)
      refine lv_iconst (v := nI 2) hx hb dL_doorOf_19 (by decide) ?_
      exact nv_retL hq hx hb hr hlocks (Nat.le_of_ble_eq_true rfl) (Nat.le_of_ble_eq_true rfl) (by rw [ht]) hS1 ⟨hP1, (hO.kept hK1 ho).imp (fun _ _ z => absurd z h0)⟩ dL_doorOf_20
  · have hO1 := hO.kept hK1 ho
    generalize H1 = H at hP1 hK1 hS1 hO1 ⊢
    refine lv_i2l hx hb dL_doorOf_8 rfl ?_
    refine nv_lastO hx hb hX.1 0 rfl hO1 hS1 (Or.inr rfl) dL_doorOf_9 (fun H2 locs2 hO2 hK2 hS2 => ?_)
    refine lv_goto (tgt := 21) hx hb dL_doorOf_10 (by decide) ?_
    refine lv_iconst (v := nI 0) hx hb dL_doorOf_21 (by decide) ?_
    exact nv_retL hq hx hb hr hlocks (Nat.le_of_ble_eq_true rfl) (Nat.le_of_ble_eq_true rfl) (by rw [h0]) hS2 ⟨cOn_W.out ho hK2 hP1, hO2.imp (fun _ z _ => z)⟩ dL_doorOf_22

set_option maxHeartbeats 1000000 in
set_option maxRecDepth 100000 in
theorem c_L_thresholdOf (l : Launch) (hl9 : l.stackTraces = false) {D : va_G} {cI cC cD cR : ClassId} {sa : sA} {AD : Nat → Nat} {cL cB : ClassId} {o : Nat} (ho : ¬ cRg AD 0 165 o) {G Sv Hi In Le : Nat → Nat} {b hs ch ty wy ln : Nat} {ea ra wd : Int32} (hG : gWf b G) (hI : cInj AD) (t w : Int32) : vx_Met l yL_thresholdOf wsL_thresholdOf ({ frames := 7, cells := 1, slots := 6, locals := 104 }) (va_Pc [.ref (AD 0), .int t, .int w, .ref o] (lPre D [(cI, .int), (cC, .char), (cD, .object "DoorDialect$Door"), (cR, .object "DoorDialect$House")] nN sa (lA AD o) cL cB (fun H => (cW D cI cC cD cR AD G Sv Hi In Le hs ch ty wy ln ea ra wd) H ∧ outL D cL o (fun _ => True) H))) (gQ (nI (if iR t (G 1) then (if w = nI 0 ∨ w = nI 1 then 0 else 2) else 1)) (fun H => (cW D cI cC cD cR AD G Sv Hi In Le hs ch ty wy ln ea ra wd) H ∧ outL D cL o (fun w9 => (if iR t (G 1) then (if w = nI 0 ∨ w = nI 1 then 0 else 2) else 1) = 0 → w9 = (((if iR t (G 1) then (if w = nI 0 then nI (G (112 + tN t)) else (if w = nI 1 then nI (gStand G (tN t)) else 0)) else 0))).toInt64) H) (lA AD o)) noX 1 6 (lA AD o) := by
  refine nv_metH (cc := cL_thresholdOf) (maxL := 5) (ret := (some .int)) (hh := [(0, 10, 13, 15), (0, 10, 17, 13)]) (by decide) rfl (Nat.le_of_ble_eq_true rfl) ?_
  intro p0 e0 s m0 args below meth c0 Q hq hargs hnA htb hpre ls hl
  obtain ⟨hx, hb, hr, hts, hown, hlocks, hml⟩ := hnA
  obtain ⟨⟨hP, hO⟩, hT, hX⟩ := hpre
  have hK := hT.1
  have hown : s.vm.findClass RL = some m0.cls := hown
  have hl : lv_has ls 5 [(0, .ref (AD 0)), (1, .int t), (2, .int w), (3, .ref o)] := hl
  have hS : va_S (lA AD o) s.heap s.heap [] := va_S.rf
  refine lv_aload_n hx hb dL_thresholdOf_0 rfl (lv_at hl 3 rfl) ?_
  refine lv_iconst (v := nI 0) hx hb dL_thresholdOf_1 (by decide) ?_
  refine lv_aload_n hx hb dL_thresholdOf_2 rfl (lv_at hl 0 rfl) ?_
  refine lv_iload_n hx hb dL_thresholdOf_3 rfl (lv_at hl 1 rfl) ?_
  refine lv_iload_n hx hb dL_thresholdOf_4 rfl (lv_at hl 2 rfl) ?_
  refine nv_kLX (vx_runV (As := [.int t, .int w]) (rest := [.int (nI 0), .ref o]) ⟨hx, hb, hml, hown, hts⟩ (c_X6_thresholdOf l hl9 (A := cRg AD 0 165) hG hI cRg_self t w) (cwV 2 hts gL_thresholdOf_X6_thresholdOf rfl rfl rfl (by decide +kernel) ⟨Nat.le_of_ble_eq_true rfl, Nat.le_of_ble_eq_true rfl⟩) (nt_pVn hT hS (fun _ h => Or.inl h) hP (va_recv hK.1 hP.1 (ci := 8) (q0 := 0) rfl rfl)) rfl rfl hl.1 rfl (lv_room (Nat.le_of_ble_eq_true rfl)) dL_thresholdOf_5 ⟨Nat.le_of_ble_eq_true rfl, Nat.le_of_ble_eq_true rfl⟩) hS (fun _ h => Or.inl h) (fun E ce q9 H1 locs1 h0 hE hP1 hK1 hS1 hcell hv9 hcl => ?_) (fun H1 locs1 h0 hP1 hK1 hS1 => ?_)
  · rcases nv_th2 (t := (if iR t (G 1) then (if w = nI 0 ∨ w = nI 1 then 0 else 2) else 1)) h0 (by (repeat' split) <;> decide) with ht | ht
    · rw [ht] at hE
      have hE : E = "java/lang/IndexOutOfBoundsException" := hE
      subst hE
      refine vx_catch (own := RL) (name := "java/lang/IndexOutOfBoundsException") hown (tableOf []) ⟨0, 10, 13, 15⟩ (tableOf [(0, 10, 17, 13)]) (by rw [htb]; rfl) (fun z hz => nomatch hz) (by decide) (by decide) (hts _ (List.mem_of_getElem? (i := 1) rfl)) (va_Nw.use rfl (hT.2.2.2.2.2.1 _ (by decide +kernel))) hcell hv9 hcl ?_
      refine lv_astore (lv' := [(4, .ref q9), (0, .ref (AD 0)), (1, .int t), (2, .int w), (3, .ref o)]) hx hb dL_thresholdOf_13 hl (by decide) rfl (fun ls hl => ?_)
      refine lv_iconst (v := nI 1) hx hb dL_thresholdOf_15 (by decide) ?_
      exact nv_retL hq hx hb hr hlocks (Nat.le_of_ble_eq_true rfl) (Nat.le_of_ble_eq_true rfl) (by rw [ht]) hS1 ⟨hP1, (hO.kept hK1 ho).imp (fun _ _ z => absurd z h0)⟩ dL_thresholdOf_16
    · rw [ht] at hE
      have hE : E = "java/lang/IllegalArgumentException" := hE
      subst hE
      have hp0 : (15 : Nat) ≠ 0 ∧ ∃ nm : String, (Cond.classLink RL 15 nm).before args s = true ∧ va_Nc "java/lang/IllegalArgumentException" nm s := ⟨by decide, "java/lang/IndexOutOfBoundsException", hts _ (List.mem_of_getElem? (i := 1) rfl), hX.2 _ (by decide +kernel) _ (by decide +kernel) (by decide +kernel)⟩
      refine vx_catch (own := RL) (name := "java/lang/IllegalArgumentException") hown (tableOf [(0, 10, 13, 15)]) ⟨0, 10, 17, 13⟩ (tableOf []) (by rw [htb]; rfl) (nv_pass (fun x hx9 => by obtain rfl := List.mem_singleton.mp hx9; exact hp0)) (by decide) (by decide) (hts _ (List.mem_of_getElem? (i := 2) rfl)) (va_Nw.use rfl (hT.2.2.2.2.2.1 _ (by decide +kernel))) hcell hv9 hcl ?_
      refine lv_astore (lv' := [(4, .ref q9), (0, .ref (AD 0)), (1, .int t), (2, .int w), (3, .ref o)]) hx hb dL_thresholdOf_17 hl (by decide) rfl (fun ls hl => ?_)
      refine lv_iconst (v := nI 2) hx hb dL_thresholdOf_19 (by decide) ?_
      exact nv_retL hq hx hb hr hlocks (Nat.le_of_ble_eq_true rfl) (Nat.le_of_ble_eq_true rfl) (by rw [ht]) hS1 ⟨hP1, (hO.kept hK1 ho).imp (fun _ _ z => absurd z h0)⟩ dL_thresholdOf_20
  · have hO1 := hO.kept hK1 ho
    generalize H1 = H at hP1 hK1 hS1 hO1 ⊢
    refine lv_i2l hx hb dL_thresholdOf_8 rfl ?_
    refine nv_lastO hx hb hX.1 0 rfl hO1 hS1 (Or.inr rfl) dL_thresholdOf_9 (fun H2 locs2 hO2 hK2 hS2 => ?_)
    refine lv_goto (tgt := 21) hx hb dL_thresholdOf_10 (by decide) ?_
    refine lv_iconst (v := nI 0) hx hb dL_thresholdOf_21 (by decide) ?_
    exact nv_retL hq hx hb hr hlocks (Nat.le_of_ble_eq_true rfl) (Nat.le_of_ble_eq_true rfl) (by rw [h0]) hS2 ⟨cOn_W.out ho hK2 hP1, hO2.imp (fun _ z _ => z)⟩ dL_thresholdOf_22

set_option maxHeartbeats 1000000 in
set_option maxRecDepth 100000 in
theorem c_L_ending (l : Launch) (hl9 : l.stackTraces = false) {D : va_G} {cI cC cD cR : ClassId} {sa : sA} {AD : Nat → Nat} {cL cB : ClassId} {o : Nat} (ho : ¬ cRg AD 0 165 o) {G Sv Hi In Le : Nat → Nat} {b hs ch ty wy ln : Nat} {ea ra wd : Int32} (hG : gWf b G) (hI : cInj AD) (a c : Int32) (z : Nat) (hz : z ≤ 1) : vx_Met l yL_ending wsL_ending ({ frames := 7, cells := 1, slots := 6, locals := 105 }) (va_Pc [.ref (AD 0), .int a, .int c, .int (nI z), .ref o] (lPre D [(cI, .int), (cC, .char), (cD, .object "DoorDialect$Door"), (cR, .object "DoorDialect$House")] nN sa (lA AD o) cL cB (fun H => (cW D cI cC cD cR AD G Sv Hi In Le hs ch ty wy ln ea ra wd) H ∧ outL D cL o (fun _ => True) H))) (gQ (nI (if iR a 3 ∧ iR c 4 then 0 else 1)) (fun H => (cW D cI cC cD cR AD G Sv Hi In Le hs ch ty wy ln ea ra wd) H ∧ outL D cL o (fun w9 => (if iR a 3 ∧ iR c 4 then 0 else 1) = 0 → w9 = (((if iR a 3 ∧ iR c 4 then nI (97 + G (gEndAt (tN a) (tN c) z)) else 0))).toInt64) H) (lA AD o)) noX 1 6 (lA AD o) := by
  refine nv_metH (cc := cL_ending) (maxL := 6) (ret := (some .int)) (hh := [(0, 12, 15, 13)]) (by decide) rfl (Nat.le_of_ble_eq_true rfl) ?_
  intro p0 e0 s m0 args below meth c0 Q hq hargs hnA htb hpre ls hl
  obtain ⟨hx, hb, hr, hts, hown, hlocks, hml⟩ := hnA
  obtain ⟨⟨hP, hO⟩, hT, hX⟩ := hpre
  have hK := hT.1
  have hown : s.vm.findClass RL = some m0.cls := hown
  have hl : lv_has ls 6 [(0, .ref (AD 0)), (1, .int a), (2, .int c), (3, .int (nI z)), (4, .ref o)] := hl
  have hS : va_S (lA AD o) s.heap s.heap [] := va_S.rf
  refine lv_aload hx hb dL_ending_0 (lv_at hl 4 rfl) ?_
  refine lv_iconst (v := nI 0) hx hb dL_ending_2 (by decide) ?_
  refine lv_aload_n hx hb dL_ending_3 rfl (lv_at hl 0 rfl) ?_
  refine lv_iload_n hx hb dL_ending_4 rfl (lv_at hl 1 rfl) ?_
  refine lv_iload_n hx hb dL_ending_5 rfl (lv_at hl 2 rfl) ?_
  refine lv_iload_n hx hb dL_ending_6 rfl (lv_at hl 3 rfl) ?_
  refine nv_kLX (vx_runV (As := [.int a, .int c, .int (nI z)]) (rest := [.int (nI 0), .ref o]) ⟨hx, hb, hml, hown, hts⟩ (c_X6_ending l hl9 (A := cRg AD 0 165) hG hI cRg_self a c z hz) (cwV 3 hts gL_ending_X6_ending rfl rfl rfl (by decide +kernel) ⟨Nat.le_of_ble_eq_true rfl, Nat.le_of_ble_eq_true rfl⟩) (nt_pVn hT hS (fun _ h => Or.inl h) hP (va_recv hK.1 hP.1 (ci := 8) (q0 := 0) rfl rfl)) rfl rfl hl.1 rfl (lv_room (Nat.le_of_ble_eq_true rfl)) dL_ending_7 ⟨Nat.le_of_ble_eq_true rfl, Nat.le_of_ble_eq_true rfl⟩) hS (fun _ h => Or.inl h) (fun E ce q9 H1 locs1 h0 hE hP1 hK1 hS1 hcell hv9 hcl => ?_) (fun H1 locs1 h0 hP1 hK1 hS1 => ?_)
  · have ht := nv_th1 (t := (if iR a 3 ∧ iR c 4 then 0 else 1)) h0 (by (repeat' split) <;> decide)
    rw [ht] at hE
    have hE : E = "java/lang/IllegalArgumentException" := hE
    subst hE
    refine vx_catch (own := RL) (name := "java/lang/IllegalArgumentException") hown (tableOf []) ⟨0, 12, 15, 13⟩ (tableOf []) (by rw [htb]; rfl) (fun z hz => nomatch hz) (by decide) (by decide) (hts _ (List.mem_of_getElem? (i := 1) rfl)) (va_Nw.use rfl (hT.2.2.2.2.2.1 _ (by decide +kernel))) hcell hv9 hcl ?_
    refine lv_astore (lv' := [(5, .ref q9), (0, .ref (AD 0)), (1, .int a), (2, .int c), (3, .int (nI z)), (4, .ref o)]) hx hb dL_ending_15 hl (by decide) rfl (fun ls hl => ?_)
    refine lv_iconst (v := nI 1) hx hb dL_ending_17 (by decide) ?_
    exact nv_retL hq hx hb hr hlocks (Nat.le_of_ble_eq_true rfl) (Nat.le_of_ble_eq_true rfl) (by rw [ht]) hS1 ⟨hP1, (hO.kept hK1 ho).imp (fun _ _ z => absurd z h0)⟩ dL_ending_18
  · have hO1 := hO.kept hK1 ho
    generalize H1 = H at hP1 hK1 hS1 hO1 ⊢
    refine lv_i2l hx hb dL_ending_10 rfl ?_
    refine nv_lastO hx hb hX.1 0 rfl hO1 hS1 (Or.inr rfl) dL_ending_11 (fun H2 locs2 hO2 hK2 hS2 => ?_)
    refine lv_goto (tgt := 19) hx hb dL_ending_12 (by decide) ?_
    refine lv_iconst (v := nI 0) hx hb dL_ending_19 (by decide) ?_
    exact nv_retL hq hx hb hr hlocks (Nat.le_of_ble_eq_true rfl) (Nat.le_of_ble_eq_true rfl) (by rw [h0]) hS2 ⟨cOn_W.out ho hK2 hP1, hO2.imp (fun _ z _ => z)⟩ dL_ending_20

set_option maxHeartbeats 1000000 in
set_option maxRecDepth 100000 in
theorem c_L_areAlike (l : Launch) (hl9 : l.stackTraces = false) {D : va_G} {cI cC cD cR : ClassId} {sa : sA} {AD : Nat → Nat} {cL cB : ClassId} {o : Nat} (ho : ¬ cRg AD 0 165 o) {G Sv Hi In Le : Nat → Nat} {b hs ch ty wy ln : Nat} {ea ra wd : Int32} (hG : gWf b G) (hI : cInj AD) (a d : Int32) (z : Nat) (hz : z ≤ 1) : vx_Met l yL_areAlike wsL_areAlike ({ frames := 8, cells := 2, slots := 12, locals := 153 }) (va_Pc [.ref (AD 0), .int a, .int d, .int (nI z), .ref o] (lPre D [(cI, .int), (cC, .char), (cD, .object "DoorDialect$Door"), (cR, .object "DoorDialect$House")] nN sa (lA AD o) cL cB (fun H => (cW D cI cC cD cR AD G Sv Hi In Le hs ch ty wy ln ea ra wd) H ∧ outL D cL o (fun _ => True) H))) (gQ (nI (if iR a (G 0) ∧ iR d (G 0) then 0 else 1)) (fun H => (cW D cI cC cD cR AD G Sv Hi In Le hs ch ty wy ln ea ra wd) H ∧ outL D cL o (fun w9 => (if iR a (G 0) ∧ iR d (G 0) then 0 else 1) = 0 → w9 = ((nI (bI ((iR a (G 0) ∧ iR d (G 0)) ∧ gAlike G (tN a) (tN d))))).toInt64) H) (lA AD o)) noX 2 12 (lA AD o) := by
  refine nv_metH (cc := cL_areAlike) (maxL := 6) (ret := (some .int)) (hh := [(0, 19, 22, 15)]) (by decide) rfl (Nat.le_of_ble_eq_true rfl) ?_
  intro p0 e0 s m0 args below meth c0 Q hq hargs hnA htb hpre ls hl
  obtain ⟨hx, hb, hr, hts, hown, hlocks, hml⟩ := hnA
  obtain ⟨⟨hP, hO⟩, hT, hX⟩ := hpre
  have hK := hT.1
  have hown : s.vm.findClass RL = some m0.cls := hown
  have hl : lv_has ls 6 [(0, .ref (AD 0)), (1, .int a), (2, .int d), (3, .int (nI z)), (4, .ref o)] := hl
  have hS : va_S (lA AD o) s.heap s.heap [] := va_S.rf
  refine lv_aload hx hb dL_areAlike_0 (lv_at hl 4 rfl) ?_
  refine lv_iconst (v := nI 0) hx hb dL_areAlike_2 (by decide) ?_
  refine lv_aload_n hx hb dL_areAlike_3 rfl (lv_at hl 0 rfl) ?_
  refine lv_iload_n hx hb dL_areAlike_4 rfl (lv_at hl 1 rfl) ?_
  refine lv_iload_n hx hb dL_areAlike_5 rfl (lv_at hl 2 rfl) ?_
  refine lv_iload_n hx hb dL_areAlike_6 rfl (lv_at hl 3 rfl) ?_
  refine nv_kLX (vx_runV (As := [.int a, .int d, .int (nI z)]) (rest := [.int (nI 0), .ref o]) ⟨hx, hb, hml, hown, hts⟩ (c_X6_areAlike l hl9 (A := cRg AD 0 165) hG hI cRg_self a d z hz) (cwV 3 hts gL_areAlike_X6_areAlike rfl rfl rfl (by decide +kernel) ⟨Nat.le_of_ble_eq_true rfl, Nat.le_of_ble_eq_true rfl⟩) (nt_pVn hT hS (fun _ h => Or.inl h) hP (va_recv hK.1 hP.1 (ci := 8) (q0 := 0) rfl rfl)) rfl rfl hl.1 rfl (lv_room (Nat.le_of_ble_eq_true rfl)) dL_areAlike_7 ⟨Nat.le_of_ble_eq_true rfl, Nat.le_of_ble_eq_true rfl⟩) hS (fun _ h => Or.inl h) (fun E ce q9 H1 locs1 h0 hE hP1 hK1 hS1 hcell hv9 hcl => ?_) (fun H1 locs1 h0 hP1 hK1 hS1 => ?_)
  · have ht := nv_th1 (t := (if iR a (G 0) ∧ iR d (G 0) then 0 else 1)) h0 (by (repeat' split) <;> decide)
    rw [ht] at hE
    have hE : E = "java/lang/IndexOutOfBoundsException" := hE
    subst hE
    refine vx_catch (own := RL) (name := "java/lang/IndexOutOfBoundsException") hown (tableOf []) ⟨0, 19, 22, 15⟩ (tableOf []) (by rw [htb]; rfl) (fun z hz => nomatch hz) (by decide) (by decide) (hts _ (List.mem_of_getElem? (i := 1) rfl)) (va_Nw.use rfl (hT.2.2.2.2.2.1 _ (by decide +kernel))) hcell hv9 hcl ?_
    refine lv_astore (lv' := [(5, .ref q9), (0, .ref (AD 0)), (1, .int a), (2, .int d), (3, .int (nI z)), (4, .ref o)]) hx hb dL_areAlike_22 hl (by decide) rfl (fun ls hl => ?_)
    refine lv_iconst (v := nI 1) hx hb dL_areAlike_24 (by decide) ?_
    exact nv_retL hq hx hb hr hlocks (Nat.le_of_ble_eq_true rfl) (Nat.le_of_ble_eq_true rfl) (by rw [ht]) hS1 ⟨hP1, (hO.kept hK1 ho).imp (fun _ _ z => absurd z h0)⟩ dL_areAlike_25
  · have hO1 := hO.kept hK1 ho
    generalize H1 = H at hP1 hK1 hS1 hO1 ⊢
    refine nv_b2l (P9 := ((iR a (G 0) ∧ iR d (G 0)) ∧ gAlike G (tN a) (tN d))) hx hb dL_areAlike_10 dL_areAlike_13 dL_areAlike_14 dL_areAlike_17 ?_
    refine nv_lastO hx hb hX.1 0 rfl hO1 hS1 (Or.inr rfl) dL_areAlike_18 (fun H2 locs2 hO2 hK2 hS2 => ?_)
    refine lv_goto (tgt := 26) hx hb dL_areAlike_19 (by decide) ?_
    refine lv_iconst (v := nI 0) hx hb dL_areAlike_26 (by decide) ?_
    exact nv_retL hq hx hb hr hlocks (Nat.le_of_ble_eq_true rfl) (Nat.le_of_ble_eq_true rfl) (by rw [h0]) hS2 ⟨cOn_W.out ho hK2 hP1, hO2.imp (fun _ z _ => z)⟩ dL_areAlike_27

set_option maxHeartbeats 1000000 in
set_option maxRecDepth 100000 in
theorem c_L_couldBe (l : Launch) (hl9 : l.stackTraces = false) {D : va_G} {cI cC cD cR : ClassId} {sa : sA} {AD : Nat → Nat} {cL cB : ClassId} {o : Nat} (ho : ¬ cRg AD 0 165 o) {G Sv Hi In Le : Nat → Nat} {b hs ch ty wy ln : Nat} {ea ra wd : Int32} (hG : gWf b G) (hI : cInj AD) (d : Int32) : vx_Met l yL_couldBe wsL_couldBe ({ frames := 8, cells := 1, slots := 6, locals := 124 }) (va_Pc [.ref (AD 0), .int d, .ref o] (lPre D [(cI, .int), (cC, .char), (cD, .object "DoorDialect$Door"), (cR, .object "DoorDialect$House")] nN sa (lA AD o) cL cB (fun H => (cW D cI cC cD cR AD G Sv Hi In Le hs ch ty wy ln ea ra wd) H ∧ outL D cL o (fun _ => True) H))) (gQ (nI (if iR d (G 0) then 0 else 1)) (fun H => (cW D cI cC cD cR AD G Sv Hi In Le hs ch ty wy ln ea ra wd) H ∧ outL D cL o (fun w9 => (if iR d (G 0) then 0 else 1) = 0 → w9 = (((if iR d (G 0) then nI (gCould G (tN d)) else 0))).toInt64) H) (lA AD o)) noX 1 6 (lA AD o) := by
  refine nv_metH (cc := cL_couldBe) (maxL := 4) (ret := (some .int)) (hh := [(0, 9, 12, 15)]) (by decide) rfl (Nat.le_of_ble_eq_true rfl) ?_
  intro p0 e0 s m0 args below meth c0 Q hq hargs hnA htb hpre ls hl
  obtain ⟨hx, hb, hr, hts, hown, hlocks, hml⟩ := hnA
  obtain ⟨⟨hP, hO⟩, hT, hX⟩ := hpre
  have hK := hT.1
  have hown : s.vm.findClass RL = some m0.cls := hown
  have hl : lv_has ls 4 [(0, .ref (AD 0)), (1, .int d), (2, .ref o)] := hl
  have hS : va_S (lA AD o) s.heap s.heap [] := va_S.rf
  refine lv_aload_n hx hb dL_couldBe_0 rfl (lv_at hl 2 rfl) ?_
  refine lv_iconst (v := nI 0) hx hb dL_couldBe_1 (by decide) ?_
  refine lv_aload_n hx hb dL_couldBe_2 rfl (lv_at hl 0 rfl) ?_
  refine lv_iload_n hx hb dL_couldBe_3 rfl (lv_at hl 1 rfl) ?_
  refine nv_kLX (vx_runV (As := [.int d]) (rest := [.int (nI 0), .ref o]) ⟨hx, hb, hml, hown, hts⟩ (c_X6_couldBe l hl9 (A := cRg AD 0 165) hG hI cRg_self d) (cwV 1 hts gL_couldBe_X6_couldBe rfl rfl rfl (by decide +kernel) ⟨Nat.le_of_ble_eq_true rfl, Nat.le_of_ble_eq_true rfl⟩) (nt_pVn hT hS (fun _ h => Or.inl h) hP (va_recv hK.1 hP.1 (ci := 8) (q0 := 0) rfl rfl)) rfl rfl hl.1 rfl (lv_room (Nat.le_of_ble_eq_true rfl)) dL_couldBe_4 ⟨Nat.le_of_ble_eq_true rfl, Nat.le_of_ble_eq_true rfl⟩) hS (fun _ h => Or.inl h) (fun E ce q9 H1 locs1 h0 hE hP1 hK1 hS1 hcell hv9 hcl => ?_) (fun H1 locs1 h0 hP1 hK1 hS1 => ?_)
  · have ht := nv_th1 (t := (if iR d (G 0) then 0 else 1)) h0 (by (repeat' split) <;> decide)
    rw [ht] at hE
    have hE : E = "java/lang/IndexOutOfBoundsException" := hE
    subst hE
    refine vx_catch (own := RL) (name := "java/lang/IndexOutOfBoundsException") hown (tableOf []) ⟨0, 9, 12, 15⟩ (tableOf []) (by rw [htb]; rfl) (fun z hz => nomatch hz) (by decide) (by decide) (hts _ (List.mem_of_getElem? (i := 1) rfl)) (va_Nw.use rfl (hT.2.2.2.2.2.1 _ (by decide +kernel))) hcell hv9 hcl ?_
    refine lv_astore_n (lv' := [(3, .ref q9), (0, .ref (AD 0)), (1, .int d), (2, .ref o)]) hx hb dL_couldBe_12 rfl hl (by decide) rfl (fun ls hl => ?_)
    refine lv_iconst (v := nI 1) hx hb dL_couldBe_13 (by decide) ?_
    exact nv_retL hq hx hb hr hlocks (Nat.le_of_ble_eq_true rfl) (Nat.le_of_ble_eq_true rfl) (by rw [ht]) hS1 ⟨hP1, (hO.kept hK1 ho).imp (fun _ _ z => absurd z h0)⟩ dL_couldBe_14
  · have hO1 := hO.kept hK1 ho
    generalize H1 = H at hP1 hK1 hS1 hO1 ⊢
    refine lv_i2l hx hb dL_couldBe_7 rfl ?_
    refine nv_lastO hx hb hX.1 0 rfl hO1 hS1 (Or.inr rfl) dL_couldBe_8 (fun H2 locs2 hO2 hK2 hS2 => ?_)
    refine lv_goto (tgt := 15) hx hb dL_couldBe_9 (by decide) ?_
    refine lv_iconst (v := nI 0) hx hb dL_couldBe_15 (by decide) ?_
    exact nv_retL hq hx hb hr hlocks (Nat.le_of_ble_eq_true rfl) (Nat.le_of_ble_eq_true rfl) (by rw [h0]) hS2 ⟨cOn_W.out ho hK2 hP1, hO2.imp (fun _ z _ => z)⟩ dL_couldBe_16

set_option maxHeartbeats 1000000 in
set_option maxRecDepth 100000 in
theorem c_L_twins (l : Launch) (hl9 : l.stackTraces = false) {D : va_G} {cI cC cD cR : ClassId} {sa : sA} {AD : Nat → Nat} {cL cB : ClassId} {o : Nat} (ho : ¬ cRg AD 0 165 o) {G Sv Hi In Le : Nat → Nat} {b hs ch ty wy ln : Nat} {ea ra wd : Int32} (hG : gWf b G) (hI : cInj AD) (d : Int32) : vx_Met l yL_twins wsL_twins ({ frames := 8, cells := 1, slots := 6, locals := 153 }) (va_Pc [.ref (AD 0), .int d, .ref o] (lPre D [(cI, .int), (cC, .char), (cD, .object "DoorDialect$Door"), (cR, .object "DoorDialect$House")] nN sa (lA AD o) cL cB (fun H => (cW D cI cC cD cR AD G Sv Hi In Le hs ch ty wy ln ea ra wd) H ∧ outL D cL o (fun _ => True) H))) (gQ (nI (if iR d (G 0) then 0 else 1)) (fun H => (cW D cI cC cD cR AD G Sv Hi In Le hs ch ty wy ln ea ra wd) H ∧ outL D cL o (fun w9 => (if iR d (G 0) then 0 else 1) = 0 → w9 = (((if iR d (G 0) then nI (gTwins G (tN d)) else 0))).toInt64) H) (lA AD o)) noX 1 6 (lA AD o) := by
  refine nv_metH (cc := cL_twins) (maxL := 4) (ret := (some .int)) (hh := [(0, 9, 12, 15)]) (by decide) rfl (Nat.le_of_ble_eq_true rfl) ?_
  intro p0 e0 s m0 args below meth c0 Q hq hargs hnA htb hpre ls hl
  obtain ⟨hx, hb, hr, hts, hown, hlocks, hml⟩ := hnA
  obtain ⟨⟨hP, hO⟩, hT, hX⟩ := hpre
  have hK := hT.1
  have hown : s.vm.findClass RL = some m0.cls := hown
  have hl : lv_has ls 4 [(0, .ref (AD 0)), (1, .int d), (2, .ref o)] := hl
  have hS : va_S (lA AD o) s.heap s.heap [] := va_S.rf
  refine lv_aload_n hx hb dL_twins_0 rfl (lv_at hl 2 rfl) ?_
  refine lv_iconst (v := nI 0) hx hb dL_twins_1 (by decide) ?_
  refine lv_aload_n hx hb dL_twins_2 rfl (lv_at hl 0 rfl) ?_
  refine lv_iload_n hx hb dL_twins_3 rfl (lv_at hl 1 rfl) ?_
  refine nv_kLX (vx_runV (As := [.int d]) (rest := [.int (nI 0), .ref o]) ⟨hx, hb, hml, hown, hts⟩ (c_X6_twins l hl9 (A := cRg AD 0 165) hG hI cRg_self d) (cwV 1 hts gL_twins_X6_twins rfl rfl rfl (by decide +kernel) ⟨Nat.le_of_ble_eq_true rfl, Nat.le_of_ble_eq_true rfl⟩) (nt_pVn hT hS (fun _ h => Or.inl h) hP (va_recv hK.1 hP.1 (ci := 8) (q0 := 0) rfl rfl)) rfl rfl hl.1 rfl (lv_room (Nat.le_of_ble_eq_true rfl)) dL_twins_4 ⟨Nat.le_of_ble_eq_true rfl, Nat.le_of_ble_eq_true rfl⟩) hS (fun _ h => Or.inl h) (fun E ce q9 H1 locs1 h0 hE hP1 hK1 hS1 hcell hv9 hcl => ?_) (fun H1 locs1 h0 hP1 hK1 hS1 => ?_)
  · have ht := nv_th1 (t := (if iR d (G 0) then 0 else 1)) h0 (by (repeat' split) <;> decide)
    rw [ht] at hE
    have hE : E = "java/lang/IndexOutOfBoundsException" := hE
    subst hE
    refine vx_catch (own := RL) (name := "java/lang/IndexOutOfBoundsException") hown (tableOf []) ⟨0, 9, 12, 15⟩ (tableOf []) (by rw [htb]; rfl) (fun z hz => nomatch hz) (by decide) (by decide) (hts _ (List.mem_of_getElem? (i := 1) rfl)) (va_Nw.use rfl (hT.2.2.2.2.2.1 _ (by decide +kernel))) hcell hv9 hcl ?_
    refine lv_astore_n (lv' := [(3, .ref q9), (0, .ref (AD 0)), (1, .int d), (2, .ref o)]) hx hb dL_twins_12 rfl hl (by decide) rfl (fun ls hl => ?_)
    refine lv_iconst (v := nI 1) hx hb dL_twins_13 (by decide) ?_
    exact nv_retL hq hx hb hr hlocks (Nat.le_of_ble_eq_true rfl) (Nat.le_of_ble_eq_true rfl) (by rw [ht]) hS1 ⟨hP1, (hO.kept hK1 ho).imp (fun _ _ z => absurd z h0)⟩ dL_twins_14
  · have hO1 := hO.kept hK1 ho
    generalize H1 = H at hP1 hK1 hS1 hO1 ⊢
    refine lv_i2l hx hb dL_twins_7 rfl ?_
    refine nv_lastO hx hb hX.1 0 rfl hO1 hS1 (Or.inr rfl) dL_twins_8 (fun H2 locs2 hO2 hK2 hS2 => ?_)
    refine lv_goto (tgt := 15) hx hb dL_twins_9 (by decide) ?_
    refine lv_iconst (v := nI 0) hx hb dL_twins_15 (by decide) ?_
    exact nv_retL hq hx hb hr hlocks (Nat.le_of_ble_eq_true rfl) (Nat.le_of_ble_eq_true rfl) (by rw [h0]) hS2 ⟨cOn_W.out ho hK2 hP1, hO2.imp (fun _ z _ => z)⟩ dL_twins_16
