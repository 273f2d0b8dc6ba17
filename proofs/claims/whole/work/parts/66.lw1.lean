set_option maxHeartbeats 1000000 in
set_option maxRecDepth 100000 in
theorem c_L_syncretic (l : Launch) (hl9 : l.stackTraces = false) {D : va_G} {cI cC cD cR : ClassId} {sa : sA} {AD : Nat → Nat} {cL cB : ClassId} {o : Nat} (ho : ¬ cRg AD 0 165 o) {G Sv Hi In Le : Nat → Nat} {b hs ch ty wy ln : Nat} {ea ra wd : Int32} (hG : gWf b G) (hI : cInj AD) (a : Int32) : vx_Met l yL_syncretic wsL_syncretic ({ frames := 8, cells := 1, slots := 6, locals := 125 }) (va_Pc [.ref (AD 0), .int a, .ref o] (lPre D [(cI, .int), (cC, .char), (cD, .object "DoorDialect$Door"), (cR, .object "DoorDialect$House")] nN sa (lA AD o) cL cB (fun H => (cW D cI cC cD cR AD G Sv Hi In Le hs ch ty wy ln ea ra wd) H ∧ outL D cL o (fun _ => True) H))) (gQ (nI (if iR a 3 then 0 else 1)) (fun H => (cW D cI cC cD cR AD G Sv Hi In Le hs ch ty wy ln ea ra wd) H ∧ outL D cL o (fun w9 => (if iR a 3 then 0 else 1) = 0 → w9 = (((if iR a 3 then nI (gSyn G (tN a)) else 0))).toInt64) H) (lA AD o)) noX 1 6 (lA AD o) := by
  refine nv_metH (cc := cL_syncretic) (maxL := 4) (ret := (some .int)) (hh := [(0, 9, 12, 13)]) (by decide) rfl (Nat.le_of_ble_eq_true rfl) ?_
  intro p0 e0 s m0 args below meth c0 Q hq hargs hnA htb hpre ls hl
  obtain ⟨hx, hb, hr, hts, hown, hlocks, hml⟩ := hnA
  obtain ⟨⟨hP, hO⟩, hT, hX⟩ := hpre
  have hK := hT.1
  have hown : s.vm.findClass RL = some m0.cls := hown
  have hl : lv_has ls 4 [(0, .ref (AD 0)), (1, .int a), (2, .ref o)] := hl
  have hS : va_S (lA AD o) s.heap s.heap [] := va_S.rf
  refine lv_aload_n hx hb dL_syncretic_0 rfl (lv_at hl 2 rfl) ?_
  refine lv_iconst (v := nI 0) hx hb dL_syncretic_1 (by decide) ?_
  refine lv_aload_n hx hb dL_syncretic_2 rfl (lv_at hl 0 rfl) ?_
  refine lv_iload_n hx hb dL_syncretic_3 rfl (lv_at hl 1 rfl) ?_
  refine nv_kLX (vx_runV (As := [.int a]) (rest := [.int (nI 0), .ref o]) ⟨hx, hb, hml, hown, hts⟩ (c_X6_syncretic l hl9 (A := cRg AD 0 165) hG hI cRg_self a) (cwV 1 hts gL_syncretic_X6_syncretic rfl rfl rfl (by decide +kernel) ⟨Nat.le_of_ble_eq_true rfl, Nat.le_of_ble_eq_true rfl⟩) (nt_pVn hT hS (fun _ h => Or.inl h) hP (va_recv hK.1 hP.1 (ci := 8) (q0 := 0) rfl rfl)) rfl rfl hl.1 rfl (lv_room (Nat.le_of_ble_eq_true rfl)) dL_syncretic_4 ⟨Nat.le_of_ble_eq_true rfl, Nat.le_of_ble_eq_true rfl⟩) hS (fun _ h => Or.inl h) (fun E ce q9 H1 locs1 h0 hE hP1 hK1 hS1 hcell hv9 hcl => ?_) (fun H1 locs1 h0 hP1 hK1 hS1 => ?_)
  · have ht := nv_th1 (t := (if iR a 3 then 0 else 1)) h0 (by (repeat' split) <;> decide)
    rw [ht] at hE
    have hE : E = "java/lang/IllegalArgumentException" := hE
    subst hE
    refine vx_catch (own := RL) (name := "java/lang/IllegalArgumentException") hown (tableOf []) ⟨0, 9, 12, 13⟩ (tableOf []) (by rw [htb]; rfl) (fun z hz => nomatch hz) (by decide) (by decide) (hts _ (List.mem_of_getElem? (i := 1) rfl)) (va_Nw.use rfl (hT.2.2.2.2.2.1 _ (by decide +kernel))) hcell hv9 hcl ?_
    refine lv_astore_n (lv' := [(3, .ref q9), (0, .ref (AD 0)), (1, .int a), (2, .ref o)]) hx hb dL_syncretic_12 rfl hl (by decide) rfl (fun ls hl => ?_)
    refine lv_iconst (v := nI 1) hx hb dL_syncretic_13 (by decide) ?_
    exact nv_retL hq hx hb hr hlocks (Nat.le_of_ble_eq_true rfl) (Nat.le_of_ble_eq_true rfl) (by rw [ht]) hS1 ⟨hP1, (hO.kept hK1 ho).imp (fun _ _ z => absurd z h0)⟩ dL_syncretic_14
  · have hO1 := hO.kept hK1 ho
    generalize H1 = H at hP1 hK1 hS1 hO1 ⊢
    refine lv_i2l hx hb dL_syncretic_7 rfl ?_
    refine nv_lastO hx hb hX.1 0 rfl hO1 hS1 (Or.inr rfl) dL_syncretic_8 (fun H2 locs2 hO2 hK2 hS2 => ?_)
    refine lv_goto (tgt := 15) hx hb dL_syncretic_9 (by decide) ?_
    refine lv_iconst (v := nI 0) hx hb dL_syncretic_15 (by decide) ?_
    exact nv_retL hq hx hb hr hlocks (Nat.le_of_ble_eq_true rfl) (Nat.le_of_ble_eq_true rfl) (by rw [h0]) hS2 ⟨cOn_W.out ho hK2 hP1, hO2.imp (fun _ z _ => z)⟩ dL_syncretic_16

set_option maxHeartbeats 1000000 in
set_option maxRecDepth 100000 in
theorem c_L_often (l : Launch) (hl9 : l.stackTraces = false) {D : va_G} {cI cC cD cR : ClassId} {sa : sA} {AD : Nat → Nat} {cL cB : ClassId} {o : Nat} (ho : ¬ cRg AD 0 165 o) {G Sv Hi In Le : Nat → Nat} {b hs ch ty wy ln : Nat} {ea ra wd : Int32} (hG : gWf b G) (hI : cInj AD) (x : Int32) : vx_Met l yL_often wsL_often ({ frames := 7, cells := 1, slots := 6, locals := 103 }) (va_Pc [.ref (AD 0), .int x, .ref o] (lPre D [(cI, .int), (cC, .char), (cD, .object "DoorDialect$Door"), (cR, .object "DoorDialect$House")] nN sa (lA AD o) cL cB (fun H => (cW D cI cC cD cR AD G Sv Hi In Le hs ch ty wy ln ea ra wd) H ∧ outL D cL o (fun _ => True) H))) (gQ (nI (if nI 97 ≤ x ∧ x ≤ nI 122 then 0 else 1)) (fun H => (cW D cI cC cD cR AD G Sv Hi In Le hs ch ty wy ln ea ra wd) H ∧ outL D cL o (fun w9 => (if nI 97 ≤ x ∧ x ≤ nI 122 then 0 else 1) = 0 → w9 = (((if nI 97 ≤ x ∧ x ≤ nI 122 then nI (gOften G (x - nI 97)) else 0))).toInt64) H) (lA AD o)) noX 1 6 (lA AD o) := by
  refine nv_metH (cc := cL_often) (maxL := 4) (ret := (some .int)) (hh := [(0, 9, 12, 13)]) (by decide) rfl (Nat.le_of_ble_eq_true rfl) ?_
  intro p0 e0 s m0 args below meth c0 Q hq hargs hnA htb hpre ls hl
  obtain ⟨hx, hb, hr, hts, hown, hlocks, hml⟩ := hnA
  obtain ⟨⟨hP, hO⟩, hT, hX⟩ := hpre
  have hK := hT.1
  have hown : s.vm.findClass RL = some m0.cls := hown
  have hl : lv_has ls 4 [(0, .ref (AD 0)), (1, .int x), (2, .ref o)] := hl
  have hS : va_S (lA AD o) s.heap s.heap [] := va_S.rf
  refine lv_aload_n hx hb dL_often_0 rfl (lv_at hl 2 rfl) ?_
  refine lv_iconst (v := nI 0) hx hb dL_often_1 (by decide) ?_
  refine lv_aload_n hx hb dL_often_2 rfl (lv_at hl 0 rfl) ?_
  refine lv_iload_n hx hb dL_often_3 rfl (lv_at hl 1 rfl) ?_
  refine nv_kLX (vx_runV (As := [.int x]) (rest := [.int (nI 0), .ref o]) ⟨hx, hb, hml, hown, hts⟩ (c_X6_often l hl9 (A := cRg AD 0 165) hG hI cRg_self x) (cwV 1 hts gL_often_X6_often rfl rfl rfl (by decide +kernel) ⟨Nat.le_of_ble_eq_true rfl, Nat.le_of_ble_eq_true rfl⟩) (nt_pVn hT hS (fun _ h => Or.inl h) hP (va_recv hK.1 hP.1 (ci := 8) (q0 := 0) rfl rfl)) rfl rfl hl.1 rfl (lv_room (Nat.le_of_ble_eq_true rfl)) dL_often_4 ⟨Nat.le_of_ble_eq_true rfl, Nat.le_of_ble_eq_true rfl⟩) hS (fun _ h => Or.inl h) (fun E ce q9 H1 locs1 h0 hE hP1 hK1 hS1 hcell hv9 hcl => ?_) (fun H1 locs1 h0 hP1 hK1 hS1 => ?_)
  · have ht := nv_th1 (t := (if nI 97 ≤ x ∧ x ≤ nI 122 then 0 else 1)) h0 (by (repeat' split) <;> decide)
    rw [ht] at hE
    have hE : E = "java/lang/IllegalArgumentException" := hE
    subst hE
    refine vx_catch (own := RL) (name := "java/lang/IllegalArgumentException") hown (tableOf []) ⟨0, 9, 12, 13⟩ (tableOf []) (by rw [htb]; rfl) (fun z hz => nomatch hz) (by decide) (by decide) (hts _ (List.mem_of_getElem? (i := 1) rfl)) (va_Nw.use rfl (hT.2.2.2.2.2.1 _ (by decide +kernel))) hcell hv9 hcl ?_
    refine lv_astore_n (lv' := [(3, .ref q9), (0, .ref (AD 0)), (1, .int x), (2, .ref o)]) hx hb dL_often_12 rfl hl (by decide) rfl (fun ls hl => ?_)
    refine lv_iconst (v := nI 1) hx hb dL_often_13 (by decide) ?_
    exact nv_retL hq hx hb hr hlocks (Nat.le_of_ble_eq_true rfl) (Nat.le_of_ble_eq_true rfl) (by rw [ht]) hS1 ⟨hP1, (hO.kept hK1 ho).imp (fun _ _ z => absurd z h0)⟩ dL_often_14
  · have hO1 := hO.kept hK1 ho
    generalize H1 = H at hP1 hK1 hS1 hO1 ⊢
    refine lv_i2l hx hb dL_often_7 rfl ?_
    refine nv_lastO hx hb hX.1 0 rfl hO1 hS1 (Or.inr rfl) dL_often_8 (fun H2 locs2 hO2 hK2 hS2 => ?_)
    refine lv_goto (tgt := 15) hx hb dL_often_9 (by decide) ?_
    refine lv_iconst (v := nI 0) hx hb dL_often_15 (by decide) ?_
    exact nv_retL hq hx hb hr hlocks (Nat.le_of_ble_eq_true rfl) (Nat.le_of_ble_eq_true rfl) (by rw [h0]) hS2 ⟨cOn_W.out ho hK2 hP1, hO2.imp (fun _ z _ => z)⟩ dL_often_16

set_option maxHeartbeats 1000000 in
set_option maxRecDepth 100000 in
theorem c_L_knock (l : Launch) (hl9 : l.stackTraces = false) {D : va_G} {cI cC cD cR : ClassId} {sa : sA} {AD : Nat → Nat} {cL cB : ClassId} {o : Nat} (ho : ¬ cRg AD 0 165 o) {G Sv Hi In Le : Nat → Nat} {b hs ch ty wy ln : Nat} {ea ra wd : Int32} (hG : gWf b G) (hI : cInj AD) (hch : ch ≤ 8) (hHw : ∀ j, j < ch → hAt Hi j 0 ≤ 8 ∧ hAt Hi j 1 ≤ 6 ∧ hAt Hi j 2 ≤ 5) (h25 : 25 ≤ b) (hbb : b + 1 < 2 ^ 20) (d g : Int32) (z : Nat) (c : Int32) (hz : z ≤ 1) : vx_Met l yL_knock wsL_knock ({ frames := 8, cells := 1, slots := 6, locals := 156 }) (va_Pc [.ref (AD 0), .int d, .int g, .int (nI z), .int c, .ref o] (lPre D [(cI, .int), (cC, .char), (cD, .object "DoorDialect$Door"), (cR, .object "DoorDialect$House")] nN sa (lA AD o) cL cB (fun H => (cW D cI cC cD cR AD G Sv Hi In Le hs ch ty wy ln ea ra wd) H ∧ outL D cL o (fun _ => True) H))) (gQ (nI ((vKnock G d g z c).1)) (fun H => (cWv D cI cC cD cR AD G Sv Hi In Le hs ch ty wy ln ea ra wd (vKnock G d g z c)) H ∧ outL D cL o (fun w9 => ((vKnock G d g z c).1) = 0 → w9 = (((vKnock G d g z c).2.2.2.1)).toInt64) H) (lA AD o)) noX 1 6 (lA AD o) := by
  refine nv_metH (cc := cL_knock) (maxL := 7) (ret := (some .int)) (hh := [(0, 14, 17, 15), (0, 14, 21, 13), (0, 14, 25, 17)]) (by decide) rfl (Nat.le_of_ble_eq_true rfl) ?_
  intro p0 e0 s m0 args below meth c0 Q hq hargs hnA htb hpre ls hl
  obtain ⟨hx, hb, hr, hts, hown, hlocks, hml⟩ := hnA
  obtain ⟨⟨hP, hO⟩, hT, hX⟩ := hpre
  have hK := hT.1
  have hown : s.vm.findClass RL = some m0.cls := hown
  have hl : lv_has ls 7 [(0, .ref (AD 0)), (1, .int d), (2, .int g), (3, .int (nI z)), (4, .int c), (5, .ref o)] := hl
  have hS : va_S (lA AD o) s.heap s.heap [] := va_S.rf
  refine lv_aload hx hb dL_knock_0 (lv_at hl 5 rfl) ?_
  refine lv_iconst (v := nI 0) hx hb dL_knock_2 (by decide) ?_
  refine lv_aload_n hx hb dL_knock_3 rfl (lv_at hl 0 rfl) ?_
  refine lv_iload_n hx hb dL_knock_4 rfl (lv_at hl 1 rfl) ?_
  refine lv_iload_n hx hb dL_knock_5 rfl (lv_at hl 2 rfl) ?_
  refine lv_iload_n hx hb dL_knock_6 rfl (lv_at hl 3 rfl) ?_
  refine lv_iload hx hb dL_knock_7 (lv_at hl 4 rfl) ?_
  refine nv_kLX (vx_runV (As := [.int d, .int g, .int (nI z), .int c]) (rest := [.int (nI 0), .ref o]) ⟨hx, hb, hml, hown, hts⟩ (c_X6_knock l hl9 (A := cRg AD 0 165) hG hI cRg_self hch hHw h25 hbb d g z c hz) (cwV 4 hts gL_knock_X6_knock rfl rfl rfl (by decide +kernel) ⟨Nat.le_of_ble_eq_true rfl, Nat.le_of_ble_eq_true rfl⟩) (nt_pVn hT hS (fun _ h => Or.inl h) hP (va_recv hK.1 hP.1 (ci := 8) (q0 := 0) rfl rfl)) rfl rfl hl.1 rfl (lv_room (Nat.le_of_ble_eq_true rfl)) dL_knock_9 ⟨Nat.le_of_ble_eq_true rfl, Nat.le_of_ble_eq_true rfl⟩) hS (fun _ h => Or.inl h) (fun E ce q9 H1 locs1 h0 hE hP1 hK1 hS1 hcell hv9 hcl => ?_) (fun H1 locs1 h0 hP1 hK1 hS1 => ?_)
  · rcases nv_th3 (t := ((vKnock G d g z c).1)) h0 (vKnock_n _ _ _ _ _) with ht | ht | ht
    · rw [ht] at hE
      have hE : E = "java/lang/IndexOutOfBoundsException" := hE
      subst hE
      refine vx_catch (own := RL) (name := "java/lang/IndexOutOfBoundsException") hown (tableOf []) ⟨0, 14, 17, 15⟩ (tableOf [(0, 14, 21, 13), (0, 14, 25, 17)]) (by rw [htb]; rfl) (fun z hz => nomatch hz) (by decide) (by decide) (hts _ (List.mem_of_getElem? (i := 1) rfl)) (va_Nw.use rfl (hT.2.2.2.2.2.1 _ (by decide +kernel))) hcell hv9 hcl ?_
      refine lv_astore (lv' := [(6, .ref q9), (0, .ref (AD 0)), (1, .int d), (2, .int g), (3, .int (nI z)), (4, .int c), (5, .ref o)]) hx hb dL_knock_17 hl (by decide) rfl (fun ls hl => ?_)
      refine lv_iconst (v := nI 1) hx hb dL_knock_19 (by decide) ?_
      exact nv_retL hq hx hb hr hlocks (Nat.le_of_ble_eq_true rfl) (Nat.le_of_ble_eq_true rfl) (by rw [ht]) hS1 ⟨hP1, (hO.kept hK1 ho).imp (fun _ _ z => absurd z h0)⟩ dL_knock_20
    · rw [ht] at hE
      have hE : E = "java/lang/IllegalArgumentException" := hE
      subst hE
      have hp0 : (15 : Nat) ≠ 0 ∧ ∃ nm : String, (Cond.classLink RL 15 nm).before args s = true ∧ va_Nc "java/lang/IllegalArgumentException" nm s := ⟨by decide, "java/lang/IndexOutOfBoundsException", hts _ (List.mem_of_getElem? (i := 1) rfl), hX.2 _ (by decide +kernel) _ (by decide +kernel) (by decide +kernel)⟩
      refine vx_catch (own := RL) (name := "java/lang/IllegalArgumentException") hown (tableOf [(0, 14, 17, 15)]) ⟨0, 14, 21, 13⟩ (tableOf [(0, 14, 25, 17)]) (by rw [htb]; rfl) (nv_pass (fun x hx9 => by obtain rfl := List.mem_singleton.mp hx9; exact hp0)) (by decide) (by decide) (hts _ (List.mem_of_getElem? (i := 2) rfl)) (va_Nw.use rfl (hT.2.2.2.2.2.1 _ (by decide +kernel))) hcell hv9 hcl ?_
      refine lv_astore (lv' := [(6, .ref q9), (0, .ref (AD 0)), (1, .int d), (2, .int g), (3, .int (nI z)), (4, .int c), (5, .ref o)]) hx hb dL_knock_21 hl (by decide) rfl (fun ls hl => ?_)
      refine lv_iconst (v := nI 2) hx hb dL_knock_23 (by decide) ?_
      exact nv_retL hq hx hb hr hlocks (Nat.le_of_ble_eq_true rfl) (Nat.le_of_ble_eq_true rfl) (by rw [ht]) hS1 ⟨hP1, (hO.kept hK1 ho).imp (fun _ _ z => absurd z h0)⟩ dL_knock_24
    · rw [ht] at hE
      have hE : E = "java/lang/UnsupportedOperationException" := hE
      subst hE
      have hp0 : (15 : Nat) ≠ 0 ∧ ∃ nm : String, (Cond.classLink RL 15 nm).before args s = true ∧ va_Nc "java/lang/UnsupportedOperationException" nm s := ⟨by decide, "java/lang/IndexOutOfBoundsException", hts _ (List.mem_of_getElem? (i := 1) rfl), hX.2 _ (by decide +kernel) _ (by decide +kernel) (by decide +kernel)⟩
      have hp1 : (13 : Nat) ≠ 0 ∧ ∃ nm : String, (Cond.classLink RL 13 nm).before args s = true ∧ va_Nc "java/lang/UnsupportedOperationException" nm s := ⟨by decide, "java/lang/IllegalArgumentException", hts _ (List.mem_of_getElem? (i := 2) rfl), hX.2 _ (by decide +kernel) _ (by decide +kernel) (by decide +kernel)⟩
      refine vx_catch (own := RL) (name := "java/lang/UnsupportedOperationException") hown (tableOf [(0, 14, 17, 15), (0, 14, 21, 13)]) ⟨0, 14, 25, 17⟩ (tableOf []) (by rw [htb]; rfl) (nv_pass (fun x hx9 => by rcases List.mem_cons.mp hx9 with rfl | hx9; exact hp0; obtain rfl := List.mem_singleton.mp hx9; exact hp1)) (by decide) (by decide) (hts _ (List.mem_of_getElem? (i := 3) rfl)) (va_Nw.use rfl (hT.2.2.2.2.2.1 _ (by decide +kernel))) hcell hv9 hcl ?_
      refine lv_astore (lv' := [(6, .ref q9), (0, .ref (AD 0)), (1, .int d), (2, .int g), (3, .int (nI z)), (4, .int c), (5, .ref o)]) hx hb dL_knock_25 hl (by decide) rfl (fun ls hl => ?_)
      refine lv_iconst (v := nI 3) hx hb dL_knock_27 (by decide) ?_
      exact nv_retL hq hx hb hr hlocks (Nat.le_of_ble_eq_true rfl) (Nat.le_of_ble_eq_true rfl) (by rw [ht]) hS1 ⟨hP1, (hO.kept hK1 ho).imp (fun _ _ z => absurd z h0)⟩ dL_knock_28
  · have hO1 := hO.kept hK1 ho
    generalize H1 = H at hP1 hK1 hS1 hO1 ⊢
    refine lv_i2l hx hb dL_knock_12 rfl ?_
    refine nv_lastO hx hb hX.1 0 rfl hO1 hS1 (Or.inr rfl) dL_knock_13 (fun H2 locs2 hO2 hK2 hS2 => ?_)
    refine lv_goto (tgt := 29) hx hb dL_knock_14 (by decide) ?_
    refine lv_iconst (v := nI 0) hx hb dL_knock_29 (by decide) ?_
    exact nv_retL hq hx hb hr hlocks (Nat.le_of_ble_eq_true rfl) (Nat.le_of_ble_eq_true rfl) (by rw [h0]) hS2 ⟨cOn_Wv.out ho hK2 hP1, hO2.imp (fun _ z _ => z)⟩ dL_knock_30

set_option maxHeartbeats 1000000 in
set_option maxRecDepth 100000 in
theorem c_L_shut (l : Launch) (hl9 : l.stackTraces = false) {D : va_G} {cI cC cD cR : ClassId} {sa : sA} {AD : Nat → Nat} {cL cB : ClassId} {o : Nat} (ho : ¬ cRg AD 0 165 o) {G Sv Hi In Le : Nat → Nat} {b hs ch ty wy ln : Nat} {ea ra wd : Int32} (hG : gWf b G) (hI : cInj AD) (hch : ch ≤ 8) (hHw : ∀ j, j < ch → hAt Hi j 0 ≤ 8 ∧ hAt Hi j 1 ≤ 6 ∧ hAt Hi j 2 ≤ 5) (h25 : 25 ≤ b) (hbb : b + 1 < 2 ^ 20) (d : Int32) : vx_Met l yL_shut wsL_shut ({ frames := 8, cells := 1, slots := 6, locals := 153 }) (va_Pc [.ref (AD 0), .int d, .ref o] (lPre D [(cI, .int), (cC, .char), (cD, .object "DoorDialect$Door"), (cR, .object "DoorDialect$House")] nN sa (lA AD o) cL cB (fun H => (cW D cI cC cD cR AD G Sv Hi In Le hs ch ty wy ln ea ra wd) H ∧ outL D cL o (fun _ => True) H))) (gQ (nI ((vShut G d).1)) (fun H => (cWv D cI cC cD cR AD G Sv Hi In Le hs ch ty wy ln ea ra wd (vShut G d)) H ∧ outL D cL o (fun w9 => ((vShut G d).1) = 0 → w9 = (((vShut G d).2.2.2.1)).toInt64) H) (lA AD o)) noX 1 6 (lA AD o) := by
  refine nv_metH (cc := cL_shut) (maxL := 4) (ret := (some .int)) (hh := [(0, 9, 12, 15), (0, 9, 15, 17)]) (by decide) rfl (Nat.le_of_ble_eq_true rfl) ?_
  intro p0 e0 s m0 args below meth c0 Q hq hargs hnA htb hpre ls hl
  obtain ⟨hx, hb, hr, hts, hown, hlocks, hml⟩ := hnA
  obtain ⟨⟨hP, hO⟩, hT, hX⟩ := hpre
  have hK := hT.1
  have hown : s.vm.findClass RL = some m0.cls := hown
  have hl : lv_has ls 4 [(0, .ref (AD 0)), (1, .int d), (2, .ref o)] := hl
  have hS : va_S (lA AD o) s.heap s.heap [] := va_S.rf
  refine lv_aload_n hx hb dL_shut_0 rfl (lv_at hl 2 rfl) ?_
  refine lv_iconst (v := nI 0) hx hb dL_shut_1 (by decide) ?_
  refine lv_aload_n hx hb dL_shut_2 rfl (lv_at hl 0 rfl) ?_
  refine lv_iload_n hx hb dL_shut_3 rfl (lv_at hl 1 rfl) ?_
  refine nv_kLX (vx_runV (As := [.int d]) (rest := [.int (nI 0), .ref o]) ⟨hx, hb, hml, hown, hts⟩ (c_X6_shut l hl9 (A := cRg AD 0 165) hG hI cRg_self hch hHw h25 hbb d) (cwV 1 hts gL_shut_X6_shut rfl rfl rfl (by decide +kernel) ⟨Nat.le_of_ble_eq_true rfl, Nat.le_of_ble_eq_true rfl⟩) (nt_pVn hT hS (fun _ h => Or.inl h) hP (va_recv hK.1 hP.1 (ci := 8) (q0 := 0) rfl rfl)) rfl rfl hl.1 rfl (lv_room (Nat.le_of_ble_eq_true rfl)) dL_shut_4 ⟨Nat.le_of_ble_eq_true rfl, Nat.le_of_ble_eq_true rfl⟩) hS (fun _ h => Or.inl h) (fun E ce q9 H1 locs1 h0 hE hP1 hK1 hS1 hcell hv9 hcl => ?_) (fun H1 locs1 h0 hP1 hK1 hS1 => ?_)
  · rcases nv_th2 (t := ((vShut G d).1)) h0 (vShut_n2 _ _) with ht | ht
    · rw [ht] at hE
      have hE : E = "java/lang/IndexOutOfBoundsException" := hE
      subst hE
      refine vx_catch (own := RL) (name := "java/lang/IndexOutOfBoundsException") hown (tableOf []) ⟨0, 9, 12, 15⟩ (tableOf [(0, 9, 15, 17)]) (by rw [htb]; rfl) (fun z hz => nomatch hz) (by decide) (by decide) (hts _ (List.mem_of_getElem? (i := 1) rfl)) (va_Nw.use rfl (hT.2.2.2.2.2.1 _ (by decide +kernel))) hcell hv9 hcl ?_
      refine lv_astore_n (lv' := [(3, .ref q9), (0, .ref (AD 0)), (1, .int d), (2, .ref o)]) hx hb dL_shut_12 rfl hl (by decide) rfl (fun ls hl => ?_)
      refine lv_iconst (v := nI 1) hx hb dL_shut_13 (by decide) ?_
      exact nv_retL hq hx hb hr hlocks (Nat.le_of_ble_eq_true rfl) (Nat.le_of_ble_eq_true rfl) (by rw [ht]) hS1 ⟨hP1, (hO.kept hK1 ho).imp (fun _ _ z => absurd z h0)⟩ dL_shut_14
    · rw [ht] at hE
      have hE : E = "java/lang/UnsupportedOperationException" := hE
      subst hE
      have hp0 : (15 : Nat) ≠ 0 ∧ ∃ nm : String, (Cond.classLink RL 15 nm).before args s = true ∧ va_Nc "java/lang/UnsupportedOperationException" nm s := ⟨by decide, "java/lang/IndexOutOfBoundsException", hts _ (List.mem_of_getElem? (i := 1) rfl), hX.2 _ (by decide +kernel) _ (by decide +kernel) (by decide +kernel)⟩
      refine vx_catch (own := RL) (name := "java/lang/UnsupportedOperationException") hown (tableOf [(0, 9, 12, 15)]) ⟨0, 9, 15, 17⟩ (tableOf []) (by rw [htb]; rfl) (nv_pass (fun x hx9 => by obtain rfl := List.mem_singleton.mp hx9; exact hp0)) (by decide) (by decide) (hts _ (List.mem_of_getElem? (i := 2) rfl)) (va_Nw.use rfl (hT.2.2.2.2.2.1 _ (by decide +kernel))) hcell hv9 hcl ?_
      refine lv_astore_n (lv' := [(3, .ref q9), (0, .ref (AD 0)), (1, .int d), (2, .ref o)]) hx hb dL_shut_15 rfl hl (by decide) rfl (fun ls hl => ?_)
      refine lv_iconst (v := nI 2) hx hb dL_shut_16 (by decide) ?_
      exact nv_retL hq hx hb hr hlocks (Nat.le_of_ble_eq_true rfl) (Nat.le_of_ble_eq_true rfl) (by rw [ht]) hS1 ⟨hP1, (hO.kept hK1 ho).imp (fun _ _ z => absurd z h0)⟩ dL_shut_17
  · have hO1 := hO.kept hK1 ho
    generalize H1 = H at hP1 hK1 hS1 hO1 ⊢
    refine lv_i2l hx hb dL_shut_7 rfl ?_
    refine nv_lastO hx hb hX.1 0 rfl hO1 hS1 (Or.inr rfl) dL_shut_8 (fun H2 locs2 hO2 hK2 hS2 => ?_)
    refine lv_goto (tgt := 18) hx hb dL_shut_9 (by decide) ?_
    refine lv_iconst (v := nI 0) hx hb dL_shut_18 (by decide) ?_
    exact nv_retL hq hx hb hr hlocks (Nat.le_of_ble_eq_true rfl) (Nat.le_of_ble_eq_true rfl) (by rw [h0]) hS2 ⟨cOn_Wv.out ho hK2 hP1, hO2.imp (fun _ z _ => z)⟩ dL_shut_19

set_option maxHeartbeats 1000000 in
set_option maxRecDepth 100000 in
theorem c_L_free (l : Launch) (hl9 : l.stackTraces = false) {D : va_G} {cI cC cD cR : ClassId} {sa : sA} {AD : Nat → Nat} {cL cB : ClassId} {o : Nat} (ho : ¬ cRg AD 0 165 o) {G Sv Hi In Le : Nat → Nat} {b hs ch ty wy ln : Nat} {ea ra wd : Int32} (hG : gWf b G) (hI : cInj AD) (hch : ch ≤ 8) (hHw : ∀ j, j < ch → hAt Hi j 0 ≤ 8 ∧ hAt Hi j 1 ≤ 6 ∧ hAt Hi j 2 ≤ 5) (h25 : 25 ≤ b) (hbb : b + 1 < 2 ^ 20) (k d : Int32) : vx_Met l yL_free wsL_free ({ frames := 8, cells := 1, slots := 6, locals := 154 }) (va_Pc [.ref (AD 0), .int k, .int d, .ref o] (lPre D [(cI, .int), (cC, .char), (cD, .object "DoorDialect$Door"), (cR, .object "DoorDialect$House")] nN sa (lA AD o) cL cB (fun H => (cW D cI cC cD cR AD G Sv Hi In Le hs ch ty wy ln ea ra wd) H ∧ outL D cL o (fun _ => True) H))) (gQ (nI ((vFree G k d).1)) (fun H => (cWv D cI cC cD cR AD G Sv Hi In Le hs ch ty wy ln ea ra wd (vFree G k d)) H ∧ outL D cL o (fun w9 => ((vFree G k d).1) = 0 → w9 = (((vFree G k d).2.2.2.1)).toInt64) H) (lA AD o)) noX 1 6 (lA AD o) := by
  refine nv_metH (cc := cL_free) (maxL := 5) (ret := (some .int)) (hh := [(0, 10, 13, 15), (0, 10, 17, 17)]) (by decide) rfl (Nat.le_of_ble_eq_true rfl) ?_
  intro p0 e0 s m0 args below meth c0 Q hq hargs hnA htb hpre ls hl
  obtain ⟨hx, hb, hr, hts, hown, hlocks, hml⟩ := hnA
  obtain ⟨⟨hP, hO⟩, hT, hX⟩ := hpre
  have hK := hT.1
  have hown : s.vm.findClass RL = some m0.cls := hown
  have hl : lv_has ls 5 [(0, .ref (AD 0)), (1, .int k), (2, .int d), (3, .ref o)] := hl
  have hS : va_S (lA AD o) s.heap s.heap [] := va_S.rf
  refine lv_aload_n hx hb dL_free_0 rfl (lv_at hl 3 rfl) ?_
  refine lv_iconst (v := nI 0) hx hb dL_free_1 (by decide) ?_
  refine lv_aload_n hx hb dL_free_2 rfl (lv_at hl 0 rfl) ?_
  refine lv_iload_n hx hb dL_free_3 rfl (lv_at hl 1 rfl) ?_
  refine lv_iload_n hx hb dL_free_4 rfl (lv_at hl 2 rfl) ?_
  refine nv_kLX (vx_runV (As := [.int k, .int d]) (rest := [.int (nI 0), .ref o]) ⟨hx, hb, hml, hown, hts⟩ (c_X6_free l hl9 (A := cRg AD 0 165) hG hI cRg_self hch hHw h25 hbb k d) (cwV 2 hts gL_free_X6_free rfl rfl rfl (by decide +kernel) ⟨Nat.le_of_ble_eq_true rfl, Nat.le_of_ble_eq_true rfl⟩) (nt_pVn hT hS (fun _ h => Or.inl h) hP (va_recv hK.1 hP.1 (ci := 8) (q0 := 0) rfl rfl)) rfl rfl hl.1 rfl (lv_room (Nat.le_of_ble_eq_true rfl)) dL_free_5 ⟨Nat.le_of_ble_eq_true rfl, Nat.le_of_ble_eq_true rfl⟩) hS (fun _ h => Or.inl h) (fun E ce q9 H1 locs1 h0 hE hP1 hK1 hS1 hcell hv9 hcl => ?_) (fun H1 locs1 h0 hP1 hK1 hS1 => ?_)
  · rcases nv_th2 (t := ((vFree G k d).1)) h0 (vFree_n2 _ _ _) with ht | ht
    · rw [ht] at hE
      have hE : E = "java/lang/IndexOutOfBoundsException" := hE
      subst hE
      refine vx_catch (own := RL) (name := "java/lang/IndexOutOfBoundsException") hown (tableOf []) ⟨0, 10, 13, 15⟩ (tableOf [(0, 10, 17, 17)]) (by rw [htb]; rfl) (fun z hz => nomatch hz) (by decide) (by decide) (hts _ (List.mem_of_getElem? (i := 1) rfl)) (va_Nw.use rfl (hT.2.2.2.2.2.1 _ (by decide +kernel))) hcell hv9 hcl ?_
      refine lv_astore (lv' := [(4, .ref q9), (0, .ref (AD 0)), (1, .int k), (2, .int d), (3, .ref o)]) hx hb dL_free_13 hl (by decide) rfl (fun ls hl => ?_)
      refine lv_iconst (v := nI 1) hx hb dL_free_15 (by decide) ?_
      exact nv_retL hq hx hb hr hlocks (Nat.le_of_ble_eq_true rfl) (Nat.le_of_ble_eq_true rfl) (by rw [ht]) hS1 ⟨hP1, (hO.kept hK1 ho).imp (fun _ _ z => absurd z h0)⟩ dL_free_16
    · rw [ht] at hE
      have hE : E = "java/lang/UnsupportedOperationException" := hE
      subst hE
      have hp0 : (15 : Nat) ≠ 0 ∧ ∃ nm : String, (Cond.classLink RL 15 nm).before args s = true ∧ va_Nc "java/lang/UnsupportedOperationException" nm s := ⟨by decide, "java/lang/IndexOutOfBoundsException", hts _ (List.mem_of_getElem? (i := 1) rfl), hX.2 _ (by decide +kernel) _ (by decide +kernel) (by decide +kernel)⟩
      refine vx_catch (own := RL) (name := "java/lang/UnsupportedOperationException") hown (tableOf [(0, 10, 13, 15)]) ⟨0, 10, 17, 17⟩ (tableOf []) (by rw [htb]; rfl) (nv_pass (fun x hx9 => by obtain rfl := List.mem_singleton.mp hx9; exact hp0)) (by decide) (by decide) (hts _ (List.mem_of_getElem? (i := 2) rfl)) (va_Nw.use rfl (hT.2.2.2.2.2.1 _ (by decide +kernel))) hcell hv9 hcl ?_
      refine lv_astore (lv' := [(4, .ref q9), (0, .ref (AD 0)), (1, .int k), (2, .int d), (3, .ref o)]) hx hb dL_free_17 hl (by decide) rfl (fun ls hl => ?_)
      refine lv_iconst (v := nI 2) hx hb dL_free_19 (by decide) ?_
      exact nv_retL hq hx hb hr hlocks (Nat.le_of_ble_eq_true rfl) (Nat.le_of_ble_eq_true rfl) (by rw [ht]) hS1 ⟨hP1, (hO.kept hK1 ho).imp (fun _ _ z => absurd z h0)⟩ dL_free_20
  · have hO1 := hO.kept hK1 ho
    generalize H1 = H at hP1 hK1 hS1 hO1 ⊢
    refine lv_i2l hx hb dL_free_8 rfl ?_
    refine nv_lastO hx hb hX.1 0 rfl hO1 hS1 (Or.inr rfl) dL_free_9 (fun H2 locs2 hO2 hK2 hS2 => ?_)
    refine lv_goto (tgt := 21) hx hb dL_free_10 (by decide) ?_
    refine lv_iconst (v := nI 0) hx hb dL_free_21 (by decide) ?_
    exact nv_retL hq hx hb hr hlocks (Nat.le_of_ble_eq_true rfl) (Nat.le_of_ble_eq_true rfl) (by rw [h0]) hS2 ⟨cOn_Wv.out ho hK2 hP1, hO2.imp (fun _ z _ => z)⟩ dL_free_22

set_option maxHeartbeats 1000000 in
set_option maxRecDepth 100000 in
theorem c_L_agrees (l : Launch) (hl9 : l.stackTraces = false) {D : va_G} {cI cC cD cR : ClassId} {sa : sA} {AD : Nat → Nat} {cL cB : ClassId} {o : Nat} (ho : ¬ cRg AD 0 165 o) {G Sv Hi In Le : Nat → Nat} {b hs ch ty wy ln : Nat} {ea ra wd : Int32} (hG : gWf b G) (hI : cInj AD) (d g : Int32) (z : Nat) (c : Int32) (hz : z ≤ 1) : vx_Met l yL_agrees wsL_agrees ({ frames := 8, cells := 2, slots := 12, locals := 127 }) (va_Pc [.ref (AD 0), .int d, .int g, .int (nI z), .int c, .ref o] (lPre D [(cI, .int), (cC, .char), (cD, .object "DoorDialect$Door"), (cR, .object "DoorDialect$House")] nN sa (lA AD o) cL cB (fun H => (cW D cI cC cD cR AD G Sv Hi In Le hs ch ty wy ln ea ra wd) H ∧ outL D cL o (fun _ => True) H))) (gQ (nI (if iR d (G 0) then (if iR g 3 ∧ iR c 4 then 0 else 2) else 1)) (fun H => (cW D cI cC cD cR AD G Sv Hi In Le hs ch ty wy ln ea ra wd) H ∧ outL D cL o (fun w9 => (if iR d (G 0) then (if iR g 3 ∧ iR c 4 then 0 else 2) else 1) = 0 → w9 = (((if iR d (G 0) then (if iR g 3 ∧ iR c 4 then nI (gAgree G (tN d) (tN g) z (tN c)) else 0) else 0))).toInt64) H) (lA AD o)) noX 2 12 (lA AD o) := by
  refine nv_metH (cc := cL_agrees) (maxL := 7) (ret := (some .int)) (hh := [(0, 14, 17, 15), (0, 14, 21, 13)]) (by decide) rfl (Nat.le_of_ble_eq_true rfl) ?_
  intro p0 e0 s m0 args below meth c0 Q hq hargs hnA htb hpre ls hl
  obtain ⟨hx, hb, hr, hts, hown, hlocks, hml⟩ := hnA
  obtain ⟨⟨hP, hO⟩, hT, hX⟩ := hpre
  have hK := hT.1
  have hown : s.vm.findClass RL = some m0.cls := hown
  have hl : lv_has ls 7 [(0, .ref (AD 0)), (1, .int d), (2, .int g), (3, .int (nI z)), (4, .int c), (5, .ref o)] := hl
  have hS : va_S (lA AD o) s.heap s.heap [] := va_S.rf
  refine lv_aload hx hb dL_agrees_0 (lv_at hl 5 rfl) ?_
  refine lv_iconst (v := nI 0) hx hb dL_agrees_2 (by decide) ?_
  refine lv_aload_n hx hb dL_agrees_3 rfl (lv_at hl 0 rfl) ?_
  refine lv_iload_n hx hb dL_agrees_4 rfl (lv_at hl 1 rfl) ?_
  refine lv_iload_n hx hb dL_agrees_5 rfl (lv_at hl 2 rfl) ?_
  refine lv_iload_n hx hb dL_agrees_6 rfl (lv_at hl 3 rfl) ?_
  refine lv_iload hx hb dL_agrees_7 (lv_at hl 4 rfl) ?_
  refine nv_kLX (vx_runV (As := [.int d, .int g, .int (nI z), .int c]) (rest := [.int (nI 0), .ref o]) ⟨hx, hb, hml, hown, hts⟩ (c_X6_agrees l hl9 (A := cRg AD 0 165) hG hI cRg_self d g z c hz) (cwV 4 hts gL_agrees_X6_agrees rfl rfl rfl (by decide +kernel) ⟨Nat.le_of_ble_eq_true rfl, Nat.le_of_ble_eq_true rfl⟩) (nt_pVn hT hS (fun _ h => Or.inl h) hP (va_recv hK.1 hP.1 (ci := 8) (q0 := 0) rfl rfl)) rfl rfl hl.1 rfl (lv_room (Nat.le_of_ble_eq_true rfl)) dL_agrees_9 ⟨Nat.le_of_ble_eq_true rfl, Nat.le_of_ble_eq_true rfl⟩) hS (fun _ h => Or.inl h) (fun E ce q9 H1 locs1 h0 hE hP1 hK1 hS1 hcell hv9 hcl => ?_) (fun H1 locs1 h0 hP1 hK1 hS1 => ?_)
  · rcases nv_th2 (t := (if iR d (G 0) then (if iR g 3 ∧ iR c 4 then 0 else 2) else 1)) h0 (by (repeat' split) <;> decide) with ht | ht
    · rw [ht] at hE
      have hE : E = "java/lang/IndexOutOfBoundsException" := hE
      subst hE
      refine vx_catch (own := RL) (name := "java/lang/IndexOutOfBoundsException") hown (tableOf []) ⟨0, 14, 17, 15⟩ (tableOf [(0, 14, 21, 13)]) (by rw [htb]; rfl) (fun z hz => nomatch hz) (by decide) (by decide) (hts _ (List.mem_of_getElem? (i := 1) rfl)) (va_Nw.use rfl (hT.2.2.2.2.2.1 _ (by decide +kernel))) hcell hv9 hcl ?_
      refine lv_astore (lv' := [(6, .ref q9), (0, .ref (AD 0)), (1, .int d), (2, .int g), (3, .int (nI z)), (4, .int c), (5, .ref o)]) hx hb dL_agrees_17 hl (by decide) rfl (fun ls hl => ?_)
      refine lv_iconst (v := nI 1) hx hb dL_agrees_19 (by decide) ?_
      exact nv_retL hq hx hb hr hlocks (Nat.le_of_ble_eq_true rfl) (Nat.le_of_ble_eq_true rfl) (by rw [ht]) hS1 ⟨hP1, (hO.kept hK1 ho).imp (fun _ _ z => absurd z h0)⟩ dL_agrees_20
    · rw [ht] at hE
      have hE : E = "java/lang/IllegalArgumentException" := hE
      subst hE
      have hp0 : (15 : Nat) ≠ 0 ∧ ∃ nm : String, (Cond.classLink RL 15 nm).before args s = true ∧ va_Nc "java/lang/IllegalArgumentException" nm s := ⟨by decide, "java/lang/IndexOutOfBoundsException", hts _ (List.mem_of_getElem? (i := 1) rfl), hX.2 _ (by decide +kernel) _ (by decide +kernel) (by decide +kernel)⟩
      refine vx_catch (own := RL) (name := "java/lang/IllegalArgumentException") hown (tableOf [(0, 14, 17, 15)]) ⟨0, 14, 21, 13⟩ (tableOf []) (by rw [htb]; rfl) (nv_pass (fun x hx9 => by obtain rfl := List.mem_singleton.mp hx9; exact hp0)) (by decide) (by decide) (hts _ (List.mem_of_getElem? (i := 2) rfl)) (va_Nw.use rfl (hT.2.2.2.2.2.1 _ (by decide +kernel))) hcell hv9 hcl ?_
      refine lv_astore (lv' := [(6, .ref q9), (0, .ref (AD 0)), (1, .int d), (2, .int g), (3, .int (nI z)), (4, .int c), (5, .ref o)]) hx hb dL_agrees_21 hl (by decide) rfl (fun ls hl => ?_)
      refine lv_iconst (v := nI 2) hx hb dL_agrees_23 (by decide) ?_
      exact nv_retL hq hx hb hr hlocks (Nat.le_of_ble_eq_true rfl) (Nat.le_of_ble_eq_true rfl) (by rw [ht]) hS1 ⟨hP1, (hO.kept hK1 ho).imp (fun _ _ z => absurd z h0)⟩ dL_agrees_24
  · have hO1 := hO.kept hK1 ho
    generalize H1 = H at hP1 hK1 hS1 hO1 ⊢
    refine lv_i2l hx hb dL_agrees_12 rfl ?_
    refine nv_lastO hx hb hX.1 0 rfl hO1 hS1 (Or.inr rfl) dL_agrees_13 (fun H2 locs2 hO2 hK2 hS2 => ?_)
    refine lv_goto (tgt := 25) hx hb dL_agrees_14 (by decide) ?_
    refine lv_iconst (v := nI 0) hx hb dL_agrees_25 (by decide) ?_
    exact nv_retL hq hx hb hr hlocks (Nat.le_of_ble_eq_true rfl) (Nat.le_of_ble_eq_true rfl) (by rw [h0]) hS2 ⟨cOn_W.out ho hK2 hP1, hO2.imp (fun _ z _ => z)⟩ dL_agrees_26

set_option maxHeartbeats 1000000 in
set_option maxRecDepth 100000 in
theorem c_L_keysFor (l : Launch) (hl9 : l.stackTraces = false) {D : va_G} {cI cC cD cR : ClassId} {sa : sA} {AD : Nat → Nat} {cL cB : ClassId} {o : Nat} (ho : ¬ cRg AD 0 165 o) {G Sv Hi In Le : Nat → Nat} {b hs ch ty wy ln : Nat} {ea ra wd : Int32} (hG : gWf b G) (hI : cInj AD) (d : Int32) : vx_Met l yL_keysFor wsL_keysFor ({ frames := 8, cells := 1, slots := 6, locals := 126 }) (va_Pc [.ref (AD 0), .int d, .ref o] (lPre D [(cI, .int), (cC, .char), (cD, .object "DoorDialect$Door"), (cR, .object "DoorDialect$House")] nN sa (lA AD o) cL cB (fun H => (cW D cI cC cD cR AD G Sv Hi In Le hs ch ty wy ln ea ra wd) H ∧ outL D cL o (fun _ => True) H))) (gQ (nI (if iR d (G 0) then 0 else 1)) (fun H => (cW D cI cC cD cR AD G Sv Hi In Le hs ch ty wy ln ea ra wd) H ∧ outL D cL o (fun w9 => (if iR d (G 0) then 0 else 1) = 0 → w9 = (((if iR d (G 0) then nI (gKeys G (tN d)) else 0))).toInt64) H) (lA AD o)) noX 1 6 (lA AD o) := by
  refine nv_metH (cc := cL_keysFor) (maxL := 4) (ret := (some .int)) (hh := [(0, 9, 12, 15)]) (by decide) rfl (Nat.le_of_ble_eq_true rfl) ?_
  intro p0 e0 s m0 args below meth c0 Q hq hargs hnA htb hpre ls hl
  obtain ⟨hx, hb, hr, hts, hown, hlocks, hml⟩ := hnA
  obtain ⟨⟨hP, hO⟩, hT, hX⟩ := hpre
  have hK := hT.1
  have hown : s.vm.findClass RL = some m0.cls := hown
  have hl : lv_has ls 4 [(0, .ref (AD 0)), (1, .int d), (2, .ref o)] := hl
  have hS : va_S (lA AD o) s.heap s.heap [] := va_S.rf
  refine lv_aload_n hx hb dL_keysFor_0 rfl (lv_at hl 2 rfl) ?_
  refine lv_iconst (v := nI 0) hx hb dL_keysFor_1 (by decide) ?_
  refine lv_aload_n hx hb dL_keysFor_2 rfl (lv_at hl 0 rfl) ?_
  refine lv_iload_n hx hb dL_keysFor_3 rfl (lv_at hl 1 rfl) ?_
  refine nv_kLX (vx_runV (As := [.int d]) (rest := [.int (nI 0), .ref o]) ⟨hx, hb, hml, hown, hts⟩ (c_X6_keysFor l hl9 (A := cRg AD 0 165) hG hI cRg_self d) (cwV 1 hts gL_keysFor_X6_keysFor rfl rfl rfl (by decide +kernel) ⟨Nat.le_of_ble_eq_true rfl, Nat.le_of_ble_eq_true rfl⟩) (nt_pVn hT hS (fun _ h => Or.inl h) hP (va_recv hK.1 hP.1 (ci := 8) (q0 := 0) rfl rfl)) rfl rfl hl.1 rfl (lv_room (Nat.le_of_ble_eq_true rfl)) dL_keysFor_4 ⟨Nat.le_of_ble_eq_true rfl, Nat.le_of_ble_eq_true rfl⟩) hS (fun _ h => Or.inl h) (fun E ce q9 H1 locs1 h0 hE hP1 hK1 hS1 hcell hv9 hcl => ?_) (fun H1 locs1 h0 hP1 hK1 hS1 => ?_)
  · have ht := nv_th1 (t := (if iR d (G 0) then 0 else 1)) h0 (by (repeat' split) <;> decide)
    rw [ht] at hE
    have hE : E = "java/lang/IndexOutOfBoundsException" := hE
    subst hE
    refine vx_catch (own := RL) (name := "java/lang/IndexOutOfBoundsException") hown (tableOf []) ⟨0, 9, 12, 15⟩ (tableOf []) (by rw [htb]; rfl) (fun z hz => nomatch hz) (by decide) (by decide) (hts _ (List.mem_of_getElem? (i := 1) rfl)) (va_Nw.use rfl (hT.2.2.2.2.2.1 _ (by decide +kernel))) hcell hv9 hcl ?_
    refine lv_astore_n (lv' := [(3, .ref q9), (0, .ref (AD 0)), (1, .int d), (2, .ref o)]) hx hb dL_keysFor_12 rfl hl (by decide) rfl (fun ls hl => ?_)
    refine lv_iconst (v := nI 1) hx hb dL_keysFor_13 (by decide) ?_
    exact nv_retL hq hx hb hr hlocks (Nat.le_of_ble_eq_true rfl) (Nat.le_of_ble_eq_true rfl) (by rw [ht]) hS1 ⟨hP1, (hO.kept hK1 ho).imp (fun _ _ z => absurd z h0)⟩ dL_keysFor_14
  · have hO1 := hO.kept hK1 ho
    generalize H1 = H at hP1 hK1 hS1 hO1 ⊢
    refine lv_i2l hx hb dL_keysFor_7 rfl ?_
    refine nv_lastO hx hb hX.1 0 rfl hO1 hS1 (Or.inr rfl) dL_keysFor_8 (fun H2 locs2 hO2 hK2 hS2 => ?_)
    refine lv_goto (tgt := 15) hx hb dL_keysFor_9 (by decide) ?_
    refine lv_iconst (v := nI 0) hx hb dL_keysFor_15 (by decide) ?_
    exact nv_retL hq hx hb hr hlocks (Nat.le_of_ble_eq_true rfl) (Nat.le_of_ble_eq_true rfl) (by rw [h0]) hS2 ⟨cOn_W.out ho hK2 hP1, hO2.imp (fun _ z _ => z)⟩ dL_keysFor_16

set_option maxHeartbeats 1000000 in
set_option maxRecDepth 100000 in
theorem c_L_way (l : Launch) (hl9 : l.stackTraces = false) {D : va_G} {cI cC cD cR : ClassId} {sa : sA} {AD : Nat → Nat} {cL cB : ClassId} {o : Nat} (ho : ¬ cRg AD 0 165 o) {G Sv Hi In Le : Nat → Nat} {bb hs ch ty wy ln : Nat} {ea ra wd : Int32} (hG : gWf bb G) (hI : cInj AD) (a b : Int32) (z : Nat) (hz : z ≤ 1) : vx_Met l yL_way wsNL_way ({ frames := 8, cells := 3, slots := 18, locals := 126 }) (va_Pc [.ref (AD 0), .int a, .int b, .int (nI z), .ref o] (lPre D [(cI, .int), (cC, .char), (cD, .object "DoorDialect$Door"), (cR, .object "DoorDialect$House")] nN sa (lA AD o) cL cB (fun H => (cW D cI cC cD cR AD G Sv Hi In Le hs ch ty wy ln ea ra wd) H ∧ outL D cL o (fun _ => True) H))) (gQ (nI (if iR a 6 ∧ iR b 6 then (if gWay G (tN a) (tN b) < 6 then 0 else 2) else 1)) (fun H => (cW D cI cC cD cR AD G Sv Hi In Le hs ch ty wy ln ea ra wd) H ∧ outL D cL o (fun w9 => (if iR a 6 ∧ iR b 6 then (if gWay G (tN a) (tN b) < 6 then 0 else 2) else 1) = 0 → w9 = (((if iR a 6 ∧ iR b 6 then (if gWay G (tN a) (tN b) < 6 then nI (gWay G (tN a) (tN b)) else 0) else 0))).toInt64) H) (lA AD o)) noX 3 18 (lA AD o) := by
  refine nv_metH (cc := cL_way) (maxL := 6) (ret := (some .int)) (hh := [(0, 12, 15, 15), (0, 12, 19, 83)]) (by decide) rfl (Nat.le_of_ble_eq_true rfl) ?_
  intro p0 e0 s m0 args below meth c0 Q hq hargs hnA htb hpre ls hl
  obtain ⟨hx, hb, hr, hts, hown, hlocks, hml⟩ := hnA
  obtain ⟨⟨hP, hO⟩, hT, hX⟩ := hpre
  have hK := hT.1
  have hown : s.vm.findClass RL = some m0.cls := hown
  have hl : lv_has ls 6 [(0, .ref (AD 0)), (1, .int a), (2, .int b), (3, .int (nI z)), (4, .ref o)] := hl
  have hS : va_S (lA AD o) s.heap s.heap [] := va_S.rf
  refine lv_aload hx hb dL_way_0 (lv_at hl 4 rfl) ?_
  refine lv_iconst (v := nI 0) hx hb dL_way_2 (by decide) ?_
  refine lv_aload_n hx hb dL_way_3 rfl (lv_at hl 0 rfl) ?_
  refine lv_iload_n hx hb dL_way_4 rfl (lv_at hl 1 rfl) ?_
  refine lv_iload_n hx hb dL_way_5 rfl (lv_at hl 2 rfl) ?_
  refine lv_iload_n hx hb dL_way_6 rfl (lv_at hl 3 rfl) ?_
  refine nv_kLX (vx_runV (As := [.int a, .int b, .int (nI z)]) (rest := [.int (nI 0), .ref o]) ⟨hx, hb, hml, hown, hts⟩ (c_N6_way l hl9 (A := cRg AD 0 165) hG hI cRg_self a b z hz) (cwV 3 hts gNL_way_X6_way rfl rfl rfl (by decide +kernel) ⟨Nat.le_of_ble_eq_true rfl, Nat.le_of_ble_eq_true rfl⟩) (nt_pVn hT hS (fun _ h => Or.inl h) hP (va_recv hK.1 hP.1 (ci := 8) (q0 := 0) rfl rfl)) rfl rfl hl.1 rfl (lv_room (Nat.le_of_ble_eq_true rfl)) dL_way_7 ⟨Nat.le_of_ble_eq_true rfl, Nat.le_of_ble_eq_true rfl⟩) hS (fun _ h => Or.inl h) (fun E ce q9 H1 locs1 h0 hE hP1 hK1 hS1 hcell hv9 hcl => ?_) (fun H1 locs1 h0 hP1 hK1 hS1 => ?_)
  · rcases nv_th2 (t := (if iR a 6 ∧ iR b 6 then (if gWay G (tN a) (tN b) < 6 then 0 else 2) else 1)) h0 (by (repeat' split) <;> decide) with ht | ht
    · rw [ht] at hE
      have hE : E = "java/lang/IndexOutOfBoundsException" := hE
      subst hE
      refine vx_catch (own := RL) (name := "java/lang/IndexOutOfBoundsException") hown (tableOf []) ⟨0, 12, 15, 15⟩ (tableOf [(0, 12, 19, 83)]) (by rw [htb]; rfl) (fun z hz => nomatch hz) (by decide) (by decide) (hts _ (List.mem_of_getElem? (i := 1) rfl)) (va_Nw.use rfl (hT.2.2.2.2.2.1 _ (by decide +kernel))) hcell hv9 hcl ?_
      refine lv_astore (lv' := [(5, .ref q9), (0, .ref (AD 0)), (1, .int a), (2, .int b), (3, .int (nI z)), (4, .ref o)]) hx hb dL_way_15 hl (by decide) rfl (fun ls hl => ?_)
      refine lv_iconst (v := nI 1) hx hb dL_way_17 (by decide) ?_
      exact nv_retL hq hx hb hr hlocks (Nat.le_of_ble_eq_true rfl) (Nat.le_of_ble_eq_true rfl) (by rw [ht]) hS1 ⟨hP1, (hO.kept hK1 ho).imp (fun _ _ z => absurd z h0)⟩ dL_way_18
    · rw [ht] at hE
      have hE : E = "java/util/NoSuchElementException" := hE
      subst hE
      have hp0 : (15 : Nat) ≠ 0 ∧ ∃ nm : String, (Cond.classLink RL 15 nm).before args s = true ∧ va_Nc "java/util/NoSuchElementException" nm s := ⟨by decide, "java/lang/IndexOutOfBoundsException", hts _ (List.mem_of_getElem? (i := 1) rfl), hX.2 _ (by decide +kernel) _ (by decide +kernel) (by decide +kernel)⟩
      refine vx_catch (own := RL) (name := "java/util/NoSuchElementException") hown (tableOf [(0, 12, 15, 15)]) ⟨0, 12, 19, 83⟩ (tableOf []) (by rw [htb]; rfl) (nv_pass (fun x hx9 => by obtain rfl := List.mem_singleton.mp hx9; exact hp0)) (by decide) (by decide) (hts _ (List.mem_of_getElem? (i := 2) rfl)) (va_Nw.use rfl (hT.2.2.2.2.2.1 _ (by decide +kernel))) hcell hv9 hcl ?_
      refine lv_astore (lv' := [(5, .ref q9), (0, .ref (AD 0)), (1, .int a), (2, .int b), (3, .int (nI z)), (4, .ref o)]) hx hb dL_way_19 hl (by decide) rfl (fun ls hl => ?_)
      refine lv_iconst (v := nI 2) hx hb dL_way_21 (by decide) ?_
      exact nv_retL hq hx hb hr hlocks (Nat.le_of_ble_eq_true rfl) (Nat.le_of_ble_eq_true rfl) (by rw [ht]) hS1 ⟨hP1, (hO.kept hK1 ho).imp (fun _ _ z => absurd z h0)⟩ dL_way_22
  · have hO1 := hO.kept hK1 ho
    generalize H1 = H at hP1 hK1 hS1 hO1 ⊢
    refine lv_i2l hx hb dL_way_10 rfl ?_
    refine nv_lastO hx hb hX.1 0 rfl hO1 hS1 (Or.inr rfl) dL_way_11 (fun H2 locs2 hO2 hK2 hS2 => ?_)
    refine lv_goto (tgt := 23) hx hb dL_way_12 (by decide) ?_
    refine lv_iconst (v := nI 0) hx hb dL_way_23 (by decide) ?_
    exact nv_retL hq hx hb hr hlocks (Nat.le_of_ble_eq_true rfl) (Nat.le_of_ble_eq_true rfl) (by rw [h0]) hS2 ⟨cOn_W.out ho hK2 hP1, hO2.imp (fun _ z _ => z)⟩ dL_way_24

set_option maxHeartbeats 1000000 in
set_option maxRecDepth 100000 in
theorem c_L_reached (l : Launch) (hl9 : l.stackTraces = false) {D : va_G} {cI cC cD cR : ClassId} {sa : sA} {AD : Nat → Nat} {cL cB : ClassId} {o : Nat} (ho : ¬ cRg AD 0 165 o) {G Sv Hi In Le : Nat → Nat} {b hs ch ty wy ln : Nat} {ea ra wd : Int32} (hG : gWf b G) (hI : cInj AD) (r : Int32) : vx_Met l yL_reached wsL_reached ({ frames := 8, cells := 1, slots := 6, locals := 123 }) (va_Pc [.ref (AD 0), .int r, .ref o] (lPre D [(cI, .int), (cC, .char), (cD, .object "DoorDialect$Door"), (cR, .object "DoorDialect$House")] nN sa (lA AD o) cL cB (fun H => (cW D cI cC cD cR AD G Sv Hi In Le hs ch ty wy ln ea ra wd) H ∧ outL D cL o (fun _ => True) H))) (gQ (nI (if iR r 6 then 0 else 1)) (fun H => (cW D cI cC cD cR AD G Sv Hi In Le hs ch ty wy ln ea ra wd) H ∧ outL D cL o (fun w9 => (if iR r 6 then 0 else 1) = 0 → w9 = (((if iR r 6 then nI (gRw G (tN r) (-1)) else 0))).toInt64) H) (lA AD o)) noX 1 6 (lA AD o) := by
  refine nv_metH (cc := cL_reached) (maxL := 4) (ret := (some .int)) (hh := [(0, 9, 12, 15)]) (by decide) rfl (Nat.le_of_ble_eq_true rfl) ?_
  intro p0 e0 s m0 args below meth c0 Q hq hargs hnA htb hpre ls hl
  obtain ⟨hx, hb, hr, hts, hown, hlocks, hml⟩ := hnA
  obtain ⟨⟨hP, hO⟩, hT, hX⟩ := hpre
  have hK := hT.1
  have hown : s.vm.findClass RL = some m0.cls := hown
  have hl : lv_has ls 4 [(0, .ref (AD 0)), (1, .int r), (2, .ref o)] := hl
  have hS : va_S (lA AD o) s.heap s.heap [] := va_S.rf
  refine lv_aload_n hx hb dL_reached_0 rfl (lv_at hl 2 rfl) ?_
  refine lv_iconst (v := nI 0) hx hb dL_reached_1 (by decide) ?_
  refine lv_aload_n hx hb dL_reached_2 rfl (lv_at hl 0 rfl) ?_
  refine lv_iload_n hx hb dL_reached_3 rfl (lv_at hl 1 rfl) ?_
  refine nv_kLX (vx_runV (As := [.int r]) (rest := [.int (nI 0), .ref o]) ⟨hx, hb, hml, hown, hts⟩ (c_X6_reached l hl9 (A := cRg AD 0 165) hG hI cRg_self r) (cwV 1 hts gL_reached_X6_reached rfl rfl rfl (by decide +kernel) ⟨Nat.le_of_ble_eq_true rfl, Nat.le_of_ble_eq_true rfl⟩) (nt_pVn hT hS (fun _ h => Or.inl h) hP (va_recv hK.1 hP.1 (ci := 8) (q0 := 0) rfl rfl)) rfl rfl hl.1 rfl (lv_room (Nat.le_of_ble_eq_true rfl)) dL_reached_4 ⟨Nat.le_of_ble_eq_true rfl, Nat.le_of_ble_eq_true rfl⟩) hS (fun _ h => Or.inl h) (fun E ce q9 H1 locs1 h0 hE hP1 hK1 hS1 hcell hv9 hcl => ?_) (fun H1 locs1 h0 hP1 hK1 hS1 => ?_)
  · have ht := nv_th1 (t := (if iR r 6 then 0 else 1)) h0 (by (repeat' split) <;> decide)
    rw [ht] at hE
    have hE : E = "java/lang/IndexOutOfBoundsException" := hE
    subst hE
    refine vx_catch (own := RL) (name := "java/lang/IndexOutOfBoundsException") hown (tableOf []) ⟨0, 9, 12, 15⟩ (tableOf []) (by rw [htb]; rfl) (fun z hz => nomatch hz) (by decide) (by decide) (hts _ (List.mem_of_getElem? (i := 1) rfl)) (va_Nw.use rfl (hT.2.2.2.2.2.1 _ (by decide +kernel))) hcell hv9 hcl ?_
    refine lv_astore_n (lv' := [(3, .ref q9), (0, .ref (AD 0)), (1, .int r), (2, .ref o)]) hx hb dL_reached_12 rfl hl (by decide) rfl (fun ls hl => ?_)
    refine lv_iconst (v := nI 1) hx hb dL_reached_13 (by decide) ?_
    exact nv_retL hq hx hb hr hlocks (Nat.le_of_ble_eq_true rfl) (Nat.le_of_ble_eq_true rfl) (by rw [ht]) hS1 ⟨hP1, (hO.kept hK1 ho).imp (fun _ _ z => absurd z h0)⟩ dL_reached_14
  · have hO1 := hO.kept hK1 ho
    generalize H1 = H at hP1 hK1 hS1 hO1 ⊢
    refine lv_i2l hx hb dL_reached_7 rfl ?_
    refine nv_lastO hx hb hX.1 0 rfl hO1 hS1 (Or.inr rfl) dL_reached_8 (fun H2 locs2 hO2 hK2 hS2 => ?_)
    refine lv_goto (tgt := 15) hx hb dL_reached_9 (by decide) ?_
    refine lv_iconst (v := nI 0) hx hb dL_reached_15 (by decide) ?_
    exact nv_retL hq hx hb hr hlocks (Nat.le_of_ble_eq_true rfl) (Nat.le_of_ble_eq_true rfl) (by rw [h0]) hS2 ⟨cOn_W.out ho hK2 hP1, hO2.imp (fun _ z _ => z)⟩ dL_reached_16

set_option maxHeartbeats 1000000 in
set_option maxRecDepth 100000 in
theorem c_L_best (l : Launch) (hl9 : l.stackTraces = false) {D : va_G} {cI cC cD cR : ClassId} {sa : sA} {AD : Nat → Nat} {cL cB : ClassId} {o : Nat} (ho : ¬ cRg AD 0 165 o) {G Sv Hi In Le : Nat → Nat} {b hs ch ty wy ln : Nat} {ea ra wd : Int32} (hG : gWf b G) (hI : cInj AD) (r : Int32) : vx_Met l yL_best wsNL_best ({ frames := 8, cells := 2, slots := 12, locals := 127 }) (va_Pc [.ref (AD 0), .int r, .ref o] (lPre D [(cI, .int), (cC, .char), (cD, .object "DoorDialect$Door"), (cR, .object "DoorDialect$House")] nN sa (lA AD o) cL cB (fun H => (cW D cI cC cD cR AD G Sv Hi In Le hs ch ty wy ln ea ra wd) H ∧ outL D cL o (fun _ => True) H))) (gQ (nI (if iR r 6 then (if gBb G (tN r) (G 0) = -1 then 2 else 0) else 1)) (fun H => (cW D cI cC cD cR AD G Sv Hi In Le hs ch ty wy ln ea ra wd) H ∧ outL D cL o (fun w9 => (if iR r 6 then (if gBb G (tN r) (G 0) = -1 then 2 else 0) else 1) = 0 → w9 = (((if iR r 6 then (if gBb G (tN r) (G 0) = -1 then 0 else gBb G (tN r) (G 0)) else 0))).toInt64) H) (lA AD o)) noX 2 12 (lA AD o) := by
  refine nv_metH (cc := cL_best) (maxL := 4) (ret := (some .int)) (hh := [(0, 9, 12, 15), (0, 9, 15, 83)]) (by decide) rfl (Nat.le_of_ble_eq_true rfl) ?_
  intro p0 e0 s m0 args below meth c0 Q hq hargs hnA htb hpre ls hl
  obtain ⟨hx, hb, hr, hts, hown, hlocks, hml⟩ := hnA
  obtain ⟨⟨hP, hO⟩, hT, hX⟩ := hpre
  have hK := hT.1
  have hown : s.vm.findClass RL = some m0.cls := hown
  have hl : lv_has ls 4 [(0, .ref (AD 0)), (1, .int r), (2, .ref o)] := hl
  have hS : va_S (lA AD o) s.heap s.heap [] := va_S.rf
  refine lv_aload_n hx hb dL_best_0 rfl (lv_at hl 2 rfl) ?_
  refine lv_iconst (v := nI 0) hx hb dL_best_1 (by decide) ?_
  refine lv_aload_n hx hb dL_best_2 rfl (lv_at hl 0 rfl) ?_
  refine lv_iload_n hx hb dL_best_3 rfl (lv_at hl 1 rfl) ?_
  refine nv_kLX (vx_runV (As := [.int r]) (rest := [.int (nI 0), .ref o]) ⟨hx, hb, hml, hown, hts⟩ (c_N6_best l hl9 (A := cRg AD 0 165) hG hI cRg_self r) (cwV 1 hts gNL_best_X6_best rfl rfl rfl (by decide +kernel) ⟨Nat.le_of_ble_eq_true rfl, Nat.le_of_ble_eq_true rfl⟩) (nt_pVn hT hS (fun _ h => Or.inl h) hP (va_recv hK.1 hP.1 (ci := 8) (q0 := 0) rfl rfl)) rfl rfl hl.1 rfl (lv_room (Nat.le_of_ble_eq_true rfl)) dL_best_4 ⟨Nat.le_of_ble_eq_true rfl, Nat.le_of_ble_eq_true rfl⟩) hS (fun _ h => Or.inl h) (fun E ce q9 H1 locs1 h0 hE hP1 hK1 hS1 hcell hv9 hcl => ?_) (fun H1 locs1 h0 hP1 hK1 hS1 => ?_)
  · rcases nv_th2 (t := (if iR r 6 then (if gBb G (tN r) (G 0) = -1 then 2 else 0) else 1)) h0 (by (repeat' split) <;> decide) with ht | ht
    · rw [ht] at hE
      have hE : E = "java/lang/IndexOutOfBoundsException" := hE
      subst hE
      refine vx_catch (own := RL) (name := "java/lang/IndexOutOfBoundsException") hown (tableOf []) ⟨0, 9, 12, 15⟩ (tableOf [(0, 9, 15, 83)]) (by rw [htb]; rfl) (fun z hz => nomatch hz) (by decide) (by decide) (hts _ (List.mem_of_getElem? (i := 1) rfl)) (va_Nw.use rfl (hT.2.2.2.2.2.1 _ (by decide +kernel))) hcell hv9 hcl ?_
      refine lv_astore_n (lv' := [(3, .ref q9), (0, .ref (AD 0)), (1, .int r), (2, .ref o)]) hx hb dL_best_12 rfl hl (by decide) rfl (fun ls hl => ?_)
      refine lv_iconst (v := nI 1) hx hb dL_best_13 (by decide) ?_
      exact nv_retL hq hx hb hr hlocks (Nat.le_of_ble_eq_true rfl) (Nat.le_of_ble_eq_true rfl) (by rw [ht]) hS1 ⟨hP1, (hO.kept hK1 ho).imp (fun _ _ z => absurd z h0)⟩ dL_best_14
    · rw [ht] at hE
      have hE : E = "java/util/NoSuchElementException" := hE
      subst hE
      have hp0 : (15 : Nat) ≠ 0 ∧ ∃ nm : String, (Cond.classLink RL 15 nm).before args s = true ∧ va_Nc "java/util/NoSuchElementException" nm s := ⟨by decide, "java/lang/IndexOutOfBoundsException", hts _ (List.mem_of_getElem? (i := 1) rfl), hX.2 _ (by decide +kernel) _ (by decide +kernel) (by decide +kernel)⟩
      refine vx_catch (own := RL) (name := "java/util/NoSuchElementException") hown (tableOf [(0, 9, 12, 15)]) ⟨0, 9, 15, 83⟩ (tableOf []) (by rw [htb]; rfl) (nv_pass (fun x hx9 => by obtain rfl := List.mem_singleton.mp hx9; exact hp0)) (by decide) (by decide) (hts _ (List.mem_of_getElem? (i := 2) rfl)) (va_Nw.use rfl (hT.2.2.2.2.2.1 _ (by decide +kernel))) hcell hv9 hcl ?_
      refine lv_astore_n (lv' := [(3, .ref q9), (0, .ref (AD 0)), (1, .int r), (2, .ref o)]) hx hb dL_best_15 rfl hl (by decide) rfl (fun ls hl => ?_)
      refine lv_iconst (v := nI 2) hx hb dL_best_16 (by decide) ?_
      exact nv_retL hq hx hb hr hlocks (Nat.le_of_ble_eq_true rfl) (Nat.le_of_ble_eq_true rfl) (by rw [ht]) hS1 ⟨hP1, (hO.kept hK1 ho).imp (fun _ _ z => absurd z h0)⟩ dL_best_17
  · have hO1 := hO.kept hK1 ho
    generalize H1 = H at hP1 hK1 hS1 hO1 ⊢
    refine lv_i2l hx hb dL_best_7 rfl ?_
    refine nv_lastO hx hb hX.1 0 rfl hO1 hS1 (Or.inr rfl) dL_best_8 (fun H2 locs2 hO2 hK2 hS2 => ?_)
    refine lv_goto (tgt := 18) hx hb dL_best_9 (by decide) ?_
    refine lv_iconst (v := nI 0) hx hb dL_best_18 (by decide) ?_
    exact nv_retL hq hx hb hr hlocks (Nat.le_of_ble_eq_true rfl) (Nat.le_of_ble_eq_true rfl) (by rw [h0]) hS2 ⟨cOn_W.out ho hK2 hP1, hO2.imp (fun _ z _ => z)⟩ dL_best_19

set_option maxHeartbeats 1000000 in
set_option maxRecDepth 100000 in
theorem c_L_ranked (l : Launch) (hl9 : l.stackTraces = false) {D : va_G} {cI cC cD cR : ClassId} {sa : sA} {AD : Nat → Nat} {cL cB : ClassId} {o : Nat} (ho : ¬ cRg AD 0 165 o) {G Sv Hi In Le : Nat → Nat} {b hs ch ty wy ln : Nat} {ea ra wd : Int32} (hG : gWf b G) (hI : cInj AD) (m x : Int32) : vx_Met l yL_ranked wsNL_ranked ({ frames := 7, cells := 1, slots := 6, locals := 105 }) (va_Pc [.ref (AD 0), .int m, .int x, .ref o] (lPre D [(cI, .int), (cC, .char), (cD, .object "DoorDialect$Door"), (cR, .object "DoorDialect$House")] nN sa (lA AD o) cL cB (fun H => (cW D cI cC cD cR AD G Sv Hi In Le hs ch ty wy ln ea ra wd) H ∧ outL D cL o (fun _ => True) H))) (gQ (nI (if iR m 2 then (if gRk G (if tN m = 0 then 104 else 64) x < G 0 then 0 else 2) else 1)) (fun H => (cW D cI cC cD cR AD G Sv Hi In Le hs ch ty wy ln ea ra wd) H ∧ outL D cL o (fun w9 => (if iR m 2 then (if gRk G (if tN m = 0 then 104 else 64) x < G 0 then 0 else 2) else 1) = 0 → w9 = (((if iR m 2 then (if gRk G (if tN m = 0 then 104 else 64) x < G 0 then nI (gRk G (if tN m = 0 then 104 else 64) x) else 0) else 0))).toInt64) H) (lA AD o)) noX 1 6 (lA AD o) := by
  refine nv_metH (cc := cL_ranked) (maxL := 5) (ret := (some .int)) (hh := [(0, 10, 13, 13), (0, 10, 17, 83)]) (by decide) rfl (Nat.le_of_ble_eq_true rfl) ?_
  intro p0 e0 s m0 args below meth c0 Q hq hargs hnA htb hpre ls hl
  obtain ⟨hx, hb, hr, hts, hown, hlocks, hml⟩ := hnA
  obtain ⟨⟨hP, hO⟩, hT, hX⟩ := hpre
  have hK := hT.1
  have hown : s.vm.findClass RL = some m0.cls := hown
  have hl : lv_has ls 5 [(0, .ref (AD 0)), (1, .int m), (2, .int x), (3, .ref o)] := hl
  have hS : va_S (lA AD o) s.heap s.heap [] := va_S.rf
  refine lv_aload_n hx hb dL_ranked_0 rfl (lv_at hl 3 rfl) ?_
  refine lv_iconst (v := nI 0) hx hb dL_ranked_1 (by decide) ?_
  refine lv_aload_n hx hb dL_ranked_2 rfl (lv_at hl 0 rfl) ?_
  refine lv_iload_n hx hb dL_ranked_3 rfl (lv_at hl 1 rfl) ?_
  refine lv_iload_n hx hb dL_ranked_4 rfl (lv_at hl 2 rfl) ?_
  refine nv_kLX (vx_runV (As := [.int m, .int x]) (rest := [.int (nI 0), .ref o]) ⟨hx, hb, hml, hown, hts⟩ (c_N6_ranked l hl9 (A := cRg AD 0 165) hG hI cRg_self m x) (cwV 2 hts gNL_ranked_X6_ranked rfl rfl rfl (by decide +kernel) ⟨Nat.le_of_ble_eq_true rfl, Nat.le_of_ble_eq_true rfl⟩) (nt_pVn hT hS (fun _ h => Or.inl h) hP (va_recv hK.1 hP.1 (ci := 8) (q0 := 0) rfl rfl)) rfl rfl hl.1 rfl (lv_room (Nat.le_of_ble_eq_true rfl)) dL_ranked_5 ⟨Nat.le_of_ble_eq_true rfl, Nat.le_of_ble_eq_true rfl⟩) hS (fun _ h => Or.inl h) (fun E ce q9 H1 locs1 h0 hE hP1 hK1 hS1 hcell hv9 hcl => ?_) (fun H1 locs1 h0 hP1 hK1 hS1 => ?_)
  · rcases nv_th2 (t := (if iR m 2 then (if gRk G (if tN m = 0 then 104 else 64) x < G 0 then 0 else 2) else 1)) h0 (by (repeat' split) <;> decide) with ht | ht
    · rw [ht] at hE
      have hE : E = "java/lang/IllegalArgumentException" := hE
      subst hE
      refine vx_catch (own := RL) (name := "java/lang/IllegalArgumentException") hown (tableOf []) ⟨0, 10, 13, 13⟩ (tableOf [(0, 10, 17, 83)]) (by rw [htb]; rfl) (fun z hz => nomatch hz) (by decide) (by decide) (hts _ (List.mem_of_getElem? (i := 1) rfl)) (va_Nw.use rfl (hT.2.2.2.2.2.1 _ (by decide +kernel))) hcell hv9 hcl ?_
      refine lv_astore (lv' := [(4, .ref q9), (0, .ref (AD 0)), (1, .int m), (2, .int x), (3, .ref o)]) hx hb dL_ranked_13 hl (by decide) rfl (fun ls hl => ?_)
      refine lv_iconst (v := nI 1) hx hb dL_ranked_15 (by decide) ?_
      exact nv_retL hq hx hb hr hlocks (Nat.le_of_ble_eq_true rfl) (Nat.le_of_ble_eq_true rfl) (by rw [ht]) hS1 ⟨hP1, (hO.kept hK1 ho).imp (fun _ _ z => absurd z h0)⟩ dL_ranked_16
    · rw [ht] at hE
      have hE : E = "java/util/NoSuchElementException" := hE
      subst hE
      have hp0 : (13 : Nat) ≠ 0 ∧ ∃ nm : String, (Cond.classLink RL 13 nm).before args s = true ∧ va_Nc "java/util/NoSuchElementException" nm s := ⟨by decide, "java/lang/IllegalArgumentException", hts _ (List.mem_of_getElem? (i := 1) rfl), hX.2 _ (by decide +kernel) _ (by decide +kernel) (by decide +kernel)⟩
      refine vx_catch (own := RL) (name := "java/util/NoSuchElementException") hown (tableOf [(0, 10, 13, 13)]) ⟨0, 10, 17, 83⟩ (tableOf []) (by rw [htb]; rfl) (nv_pass (fun x hx9 => by obtain rfl := List.mem_singleton.mp hx9; exact hp0)) (by decide) (by decide) (hts _ (List.mem_of_getElem? (i := 2) rfl)) (va_Nw.use rfl (hT.2.2.2.2.2.1 _ (by decide +kernel))) hcell hv9 hcl ?_
      refine lv_astore (lv' := [(4, .ref q9), (0, .ref (AD 0)), (1, .int m), (2, .int x), (3, .ref o)]) hx hb dL_ranked_17 hl (by decide) rfl (fun ls hl => ?_)
      refine lv_iconst (v := nI 2) hx hb dL_ranked_19 (by decide) ?_
      exact nv_retL hq hx hb hr hlocks (Nat.le_of_ble_eq_true rfl) (Nat.le_of_ble_eq_true rfl) (by rw [ht]) hS1 ⟨hP1, (hO.kept hK1 ho).imp (fun _ _ z => absurd z h0)⟩ dL_ranked_20
  · have hO1 := hO.kept hK1 ho
    generalize H1 = H at hP1 hK1 hS1 hO1 ⊢
    refine lv_i2l hx hb dL_ranked_8 rfl ?_
    refine nv_lastO hx hb hX.1 0 rfl hO1 hS1 (Or.inr rfl) dL_ranked_9 (fun H2 locs2 hO2 hK2 hS2 => ?_)
    refine lv_goto (tgt := 21) hx hb dL_ranked_10 (by decide) ?_
    refine lv_iconst (v := nI 0) hx hb dL_ranked_21 (by decide) ?_
    exact nv_retL hq hx hb hr hlocks (Nat.le_of_ble_eq_true rfl) (Nat.le_of_ble_eq_true rfl) (by rw [h0]) hS2 ⟨cOn_W.out ho hK2 hP1, hO2.imp (fun _ z _ => z)⟩ dL_ranked_22

set_option maxHeartbeats 1000000 in
set_option maxRecDepth 100000 in
theorem c_L_line (l : Launch) (hl9 : l.stackTraces = false) {D : va_G} {cI cC cD cR : ClassId} {sa : sA} {AD : Nat → Nat} {cL cB : ClassId} {o : Nat} (ho : ¬ cRg AD 0 165 o) {G Sv Hi In Le : Nat → Nat} {b hs ch ty wy ln : Nat} {ea ra wd : Int32} (hG : gWf b G) (hI : cInj AD) (d : Int32) : vx_Met l yL_line wsL_line ({ frames := 8, cells := 1, slots := 6, locals := 130 }) (va_Pc [.ref (AD 0), .int d, .ref o] (lPre D [(cI, .int), (cC, .char), (cD, .object "DoorDialect$Door"), (cR, .object "DoorDialect$House")] nN sa (lA AD o) cL cB (fun H => (cW D cI cC cD cR AD G Sv Hi In Le hs ch ty wy ln ea ra wd) H ∧ outL D cL o (fun _ => True) H))) (gQ (nI (if iR d (G 0) then 0 else 1)) (fun H => (cW D cI cC cD cR AD G Sv Hi In ((if iR d (G 0) then wrL (lnD G (tN d)) Le 0 else Le)) hs ch ty wy ((if iR d (G 0) then (lnD G (tN d)).length else ln)) ea ra wd) H ∧ outL D cL o (fun w9 => (if iR d (G 0) then 0 else 1) = 0 → w9 = (((if iR d (G 0) then nI (lnD G (tN d)).length else 0))).toInt64) H) (lA AD o)) noX 1 6 (lA AD o) := by
  refine nv_metH (cc := cL_line) (maxL := 4) (ret := (some .int)) (hh := [(0, 9, 12, 15)]) (by decide) rfl (Nat.le_of_ble_eq_true rfl) ?_
  intro p0 e0 s m0 args below meth c0 Q hq hargs hnA htb hpre ls hl
  obtain ⟨hx, hb, hr, hts, hown, hlocks, hml⟩ := hnA
  obtain ⟨⟨hP, hO⟩, hT, hX⟩ := hpre
  have hK := hT.1
  have hown : s.vm.findClass RL = some m0.cls := hown
  have hl : lv_has ls 4 [(0, .ref (AD 0)), (1, .int d), (2, .ref o)] := hl
  have hS : va_S (lA AD o) s.heap s.heap [] := va_S.rf
  refine lv_aload_n hx hb dL_line_0 rfl (lv_at hl 2 rfl) ?_
  refine lv_iconst (v := nI 0) hx hb dL_line_1 (by decide) ?_
  refine lv_aload_n hx hb dL_line_2 rfl (lv_at hl 0 rfl) ?_
  refine lv_iload_n hx hb dL_line_3 rfl (lv_at hl 1 rfl) ?_
  refine nv_kLX (vx_runV (As := [.int d]) (rest := [.int (nI 0), .ref o]) ⟨hx, hb, hml, hown, hts⟩ (c_X6_line l hl9 (A := cRg AD 0 165) hG hI cRg_self d) (cwV 1 hts gL_line_X6_line rfl rfl rfl (by decide +kernel) ⟨Nat.le_of_ble_eq_true rfl, Nat.le_of_ble_eq_true rfl⟩) (nt_pVn hT hS (fun _ h => Or.inl h) hP (va_recv hK.1 hP.1 (ci := 8) (q0 := 0) rfl rfl)) rfl rfl hl.1 rfl (lv_room (Nat.le_of_ble_eq_true rfl)) dL_line_4 ⟨Nat.le_of_ble_eq_true rfl, Nat.le_of_ble_eq_true rfl⟩) hS (fun _ h => Or.inl h) (fun E ce q9 H1 locs1 h0 hE hP1 hK1 hS1 hcell hv9 hcl => ?_) (fun H1 locs1 h0 hP1 hK1 hS1 => ?_)
  · have ht := nv_th1 (t := (if iR d (G 0) then 0 else 1)) h0 (by (repeat' split) <;> decide)
    rw [ht] at hE
    have hE : E = "java/lang/IndexOutOfBoundsException" := hE
    subst hE
    refine vx_catch (own := RL) (name := "java/lang/IndexOutOfBoundsException") hown (tableOf []) ⟨0, 9, 12, 15⟩ (tableOf []) (by rw [htb]; rfl) (fun z hz => nomatch hz) (by decide) (by decide) (hts _ (List.mem_of_getElem? (i := 1) rfl)) (va_Nw.use rfl (hT.2.2.2.2.2.1 _ (by decide +kernel))) hcell hv9 hcl ?_
    refine lv_astore_n (lv' := [(3, .ref q9), (0, .ref (AD 0)), (1, .int d), (2, .ref o)]) hx hb dL_line_12 rfl hl (by decide) rfl (fun ls hl => ?_)
    refine lv_iconst (v := nI 1) hx hb dL_line_13 (by decide) ?_
    exact nv_retL hq hx hb hr hlocks (Nat.le_of_ble_eq_true rfl) (Nat.le_of_ble_eq_true rfl) (by rw [ht]) hS1 ⟨hP1, (hO.kept hK1 ho).imp (fun _ _ z => absurd z h0)⟩ dL_line_14
  · have hO1 := hO.kept hK1 ho
    generalize H1 = H at hP1 hK1 hS1 hO1 ⊢
    refine lv_i2l hx hb dL_line_7 rfl ?_
    refine nv_lastO hx hb hX.1 0 rfl hO1 hS1 (Or.inr rfl) dL_line_8 (fun H2 locs2 hO2 hK2 hS2 => ?_)
    refine lv_goto (tgt := 15) hx hb dL_line_9 (by decide) ?_
    refine lv_iconst (v := nI 0) hx hb dL_line_15 (by decide) ?_
    exact nv_retL hq hx hb hr hlocks (Nat.le_of_ble_eq_true rfl) (Nat.le_of_ble_eq_true rfl) (by rw [h0]) hS2 ⟨cOn_W.out ho hK2 hP1, hO2.imp (fun _ z _ => z)⟩ dL_line_16
