set_option maxHeartbeats 1000000 in
set_option maxRecDepth 100000 in
theorem c_L_endings (l : Launch) (hl9 : l.stackTraces = false) {D : va_G} {cI cC cD cR : ClassId} {sa : sA} {AD : Nat → Nat} {cL cB : ClassId} {o : Nat} (ho : ¬ cRg AD 0 165 o) {G Sv Hi In Le : Nat → Nat} {b hs ch ty wy ln : Nat} {ea ra wd : Int32} (hG : gWf b G) (hI : cInj AD) (a : Int32) : vx_Met l yL_endings wsL_endings ({ frames := 8, cells := 1, slots := 6, locals := 125 }) (va_Pc [.ref (AD 0), .int a, .ref o] (lPre D [(cI, .int), (cC, .char), (cD, .object "DoorDialect$Door"), (cR, .object "DoorDialect$House")] nN sa (lA AD o) cL cB (fun H => (cW D cI cC cD cR AD G Sv Hi In Le hs ch ty wy ln ea ra wd) H ∧ outL D cL o (fun _ => True) H))) (gQ (nI (if iR a 3 then 0 else 1)) (fun H => (cW D cI cC cD cR AD G Sv Hi In ((if iR a 3 then wrL (enD G (tN a)) Le 0 else Le)) hs ch ty wy ((if iR a 3 then 9 else ln)) ea ra wd) H ∧ outL D cL o (fun w9 => (if iR a 3 then 0 else 1) = 0 → w9 = (((if iR a 3 then nI 9 else 0))).toInt64) H) (lA AD o)) noX 1 6 (lA AD o) := by
  refine nv_metH (cc := cL_endings) (maxL := 4) (ret := (some .int)) (hh := [(0, 9, 12, 13)]) (by decide) rfl (Nat.le_of_ble_eq_true rfl) ?_
  intro p0 e0 s m0 args below meth c0 Q hq hargs hnA htb hpre ls hl
  obtain ⟨hx, hb, hr, hts, hown, hlocks, hml⟩ := hnA
  obtain ⟨⟨hP, hO⟩, hT, hX⟩ := hpre
  have hK := hT.1
  have hown : s.vm.findClass RL = some m0.cls := hown
  have hl : lv_has ls 4 [(0, .ref (AD 0)), (1, .int a), (2, .ref o)] := hl
  have hS : va_S (lA AD o) s.heap s.heap [] := va_S.rf
  refine lv_aload_n hx hb dL_endings_0 rfl (lv_at hl 2 rfl) ?_
  refine lv_iconst (v := nI 0) hx hb dL_endings_1 (by decide) ?_
  refine lv_aload_n hx hb dL_endings_2 rfl (lv_at hl 0 rfl) ?_
  refine lv_iload_n hx hb dL_endings_3 rfl (lv_at hl 1 rfl) ?_
  refine nv_kLX (vx_runV (As := [.int a]) (rest := [.int (nI 0), .ref o]) ⟨hx, hb, hml, hown, hts⟩ (c_X6_endings l hl9 (A := cRg AD 0 165) hG hI cRg_self a) (cwV 1 hts gL_endings_X6_endings rfl rfl rfl (by decide +kernel) ⟨Nat.le_of_ble_eq_true rfl, Nat.le_of_ble_eq_true rfl⟩) (nt_pVn hT hS (fun _ h => Or.inl h) hP (va_recv hK.1 hP.1 (ci := 8) (q0 := 0) rfl rfl)) rfl rfl hl.1 rfl (lv_room (Nat.le_of_ble_eq_true rfl)) dL_endings_4 ⟨Nat.le_of_ble_eq_true rfl, Nat.le_of_ble_eq_true rfl⟩) hS (fun _ h => Or.inl h) (fun E ce q9 H1 locs1 h0 hE hP1 hK1 hS1 hcell hv9 hcl => ?_) (fun H1 locs1 h0 hP1 hK1 hS1 => ?_)
  · have ht := nv_th1 (t := (if iR a 3 then 0 else 1)) h0 (by (repeat' split) <;> decide)
    rw [ht] at hE
    have hE : E = "java/lang/IllegalArgumentException" := hE
    subst hE
    refine vx_catch (own := RL) (name := "java/lang/IllegalArgumentException") hown (tableOf []) ⟨0, 9, 12, 13⟩ (tableOf []) (by rw [htb]; rfl) (fun z hz => nomatch hz) (by decide) (by decide) (hts _ (List.mem_of_getElem? (i := 1) rfl)) (va_Nw.use rfl (hT.2.2.2.2.2.1 _ (by decide +kernel))) hcell hv9 hcl ?_
    refine lv_astore_n (lv' := [(3, .ref q9), (0, .ref (AD 0)), (1, .int a), (2, .ref o)]) hx hb dL_endings_12 rfl hl (by decide) rfl (fun ls hl => ?_)
    refine lv_iconst (v := nI 1) hx hb dL_endings_13 (by decide) ?_
    exact nv_retL hq hx hb hr hlocks (Nat.le_of_ble_eq_true rfl) (Nat.le_of_ble_eq_true rfl) (by rw [ht]) hS1 ⟨hP1, (hO.kept hK1 ho).imp (fun _ _ z => absurd z h0)⟩ dL_endings_14
  · have hO1 := hO.kept hK1 ho
    generalize H1 = H at hP1 hK1 hS1 hO1 ⊢
    refine lv_i2l hx hb dL_endings_7 rfl ?_
    refine nv_lastO hx hb hX.1 0 rfl hO1 hS1 (Or.inr rfl) dL_endings_8 (fun H2 locs2 hO2 hK2 hS2 => ?_)
    refine lv_goto (tgt := 15) hx hb dL_endings_9 (by decide) ?_
    refine lv_iconst (v := nI 0) hx hb dL_endings_15 (by decide) ?_
    exact nv_retL hq hx hb hr hlocks (Nat.le_of_ble_eq_true rfl) (Nat.le_of_ble_eq_true rfl) (by rw [h0]) hS2 ⟨cOn_W.out ho hK2 hP1, hO2.imp (fun _ z _ => z)⟩ dL_endings_16

set_option maxHeartbeats 1000000 in
set_option maxRecDepth 100000 in
theorem c_L_character (l : Launch) (hl9 : l.stackTraces = false) {D : va_G} {cI cC cD cR : ClassId} {sa : sA} {AD : Nat → Nat} {cL cB : ClassId} {o : Nat} (ho : ¬ cRg AD 0 165 o) {G Sv Hi In Le : Nat → Nat} {b hs ch ty wy ln : Nat} {ea ra wd : Int32} (hG : gWf b G) (hI : cInj AD) (x : Int32) (hln : ln ≤ 16) (hLe : ∀ k, k < ln → Le k < 65536) : vx_Met l yL_character wsL_character ({ frames := 7, cells := 1, slots := 6, locals := 103 }) (va_Pc [.ref (AD 0), .int x, .ref o] (lPre D [(cI, .int), (cC, .char), (cD, .object "DoorDialect$Door"), (cR, .object "DoorDialect$House")] nN sa (lA AD o) cL cB (fun H => (cW D cI cC cD cR AD G Sv Hi In Le hs ch ty wy ln ea ra wd) H ∧ outL D cL o (fun _ => True) H))) (gQ (nI (if iR x ln then 0 else 1)) (fun H => (cW D cI cC cD cR AD G Sv Hi In Le hs ch ty wy ln ea ra wd) H ∧ outL D cL o (fun w9 => (if iR x ln then 0 else 1) = 0 → w9 = (((if iR x ln then nI (Le (tN x)) else 0))).toInt64) H) (lA AD o)) noX 1 6 (lA AD o) := by
  refine nv_metH (cc := cL_character) (maxL := 4) (ret := (some .int)) (hh := [(0, 9, 12, 15)]) (by decide) rfl (Nat.le_of_ble_eq_true rfl) ?_
  intro p0 e0 s m0 args below meth c0 Q hq hargs hnA htb hpre ls hl
  obtain ⟨hx, hb, hr, hts, hown, hlocks, hml⟩ := hnA
  obtain ⟨⟨hP, hO⟩, hT, hX⟩ := hpre
  have hK := hT.1
  have hown : s.vm.findClass RL = some m0.cls := hown
  have hl : lv_has ls 4 [(0, .ref (AD 0)), (1, .int x), (2, .ref o)] := hl
  have hS : va_S (lA AD o) s.heap s.heap [] := va_S.rf
  refine lv_aload_n hx hb dL_character_0 rfl (lv_at hl 2 rfl) ?_
  refine lv_iconst (v := nI 0) hx hb dL_character_1 (by decide) ?_
  refine lv_aload_n hx hb dL_character_2 rfl (lv_at hl 0 rfl) ?_
  refine lv_iload_n hx hb dL_character_3 rfl (lv_at hl 1 rfl) ?_
  refine nv_kLX (vx_runV (As := [.int x]) (rest := [.int (nI 0), .ref o]) ⟨hx, hb, hml, hown, hts⟩ (c_X6_character l hl9 (A := cRg AD 0 165) hG hI cRg_self x hln hLe) (cwV 1 hts gL_character_X6_character rfl rfl rfl (by decide +kernel) ⟨Nat.le_of_ble_eq_true rfl, Nat.le_of_ble_eq_true rfl⟩) (nt_pVn hT hS (fun _ h => Or.inl h) hP (va_recv hK.1 hP.1 (ci := 8) (q0 := 0) rfl rfl)) rfl rfl hl.1 rfl (lv_room (Nat.le_of_ble_eq_true rfl)) dL_character_4 ⟨Nat.le_of_ble_eq_true rfl, Nat.le_of_ble_eq_true rfl⟩) hS (fun _ h => Or.inl h) (fun E ce q9 H1 locs1 h0 hE hP1 hK1 hS1 hcell hv9 hcl => ?_) (fun H1 locs1 h0 hP1 hK1 hS1 => ?_)
  · have ht := nv_th1 (t := (if iR x ln then 0 else 1)) h0 (by (repeat' split) <;> decide)
    rw [ht] at hE
    have hE : E = "java/lang/IndexOutOfBoundsException" := hE
    subst hE
    refine vx_catch (own := RL) (name := "java/lang/IndexOutOfBoundsException") hown (tableOf []) ⟨0, 9, 12, 15⟩ (tableOf []) (by rw [htb]; rfl) (fun z hz => nomatch hz) (by decide) (by decide) (hts _ (List.mem_of_getElem? (i := 1) rfl)) (va_Nw.use rfl (hT.2.2.2.2.2.1 _ (by decide +kernel))) hcell hv9 hcl ?_
    refine lv_astore_n (lv' := [(3, .ref q9), (0, .ref (AD 0)), (1, .int x), (2, .ref o)]) hx hb dL_character_12 rfl hl (by decide) rfl (fun ls hl => ?_)
    refine lv_iconst (v := nI 1) hx hb dL_character_13 (by decide) ?_
    exact nv_retL hq hx hb hr hlocks (Nat.le_of_ble_eq_true rfl) (Nat.le_of_ble_eq_true rfl) (by rw [ht]) hS1 ⟨hP1, (hO.kept hK1 ho).imp (fun _ _ z => absurd z h0)⟩ dL_character_14
  · have hO1 := hO.kept hK1 ho
    generalize H1 = H at hP1 hK1 hS1 hO1 ⊢
    refine lv_i2l hx hb dL_character_7 rfl ?_
    refine nv_lastO hx hb hX.1 0 rfl hO1 hS1 (Or.inr rfl) dL_character_8 (fun H2 locs2 hO2 hK2 hS2 => ?_)
    refine lv_goto (tgt := 15) hx hb dL_character_9 (by decide) ?_
    refine lv_iconst (v := nI 0) hx hb dL_character_15 (by decide) ?_
    exact nv_retL hq hx hb hr hlocks (Nat.le_of_ble_eq_true rfl) (Nat.le_of_ble_eq_true rfl) (by rw [h0]) hS2 ⟨cOn_W.out ho hK2 hP1, hO2.imp (fun _ z _ => z)⟩ dL_character_16

set_option maxHeartbeats 1000000 in
set_option maxRecDepth 100000 in
theorem c_L_refusal (l : Launch) (hl9 : l.stackTraces = false) {D : va_G} {cI cC cD cR : ClassId} {sa : sA} {AD : Nat → Nat} {cL cB : ClassId} {o : Nat} (ho : ¬ cRg AD 0 165 o) {G Sv Hi In Le : Nat → Nat} {hs ch ty wy ln : Nat} {ea ra wd : Int32} (z : Nat) (hz : z ≤ 1) (hwy : wy < 2 ^ 31) : vx_Met l yL_refusal wsL_refusal ({ frames := 7, cells := 1, slots := 6, locals := 103 }) (va_Pc [.ref (AD 0), .int (nI z), .ref o] (lPre D [(cI, .int), (cC, .char), (cD, .object "DoorDialect$Door"), (cR, .object "DoorDialect$House")] nN sa (lA AD o) cL cB (fun H => (cW D cI cC cD cR AD G Sv Hi In Le hs ch ty wy ln ea ra wd) H ∧ outL D cL o (fun _ => True) H))) (gQ (nI (if wy = 0 then 1 else 0)) (fun H => (cW D cI cC cD cR AD G Sv Hi In Le hs ch ty wy ln ea ra wd) H ∧ outL D cL o (fun w9 => (if wy = 0 then 1 else 0) = 0 → w9 = (((if wy = 0 then 0 else (if z = 0 then nI wy else wd)))).toInt64) H) (lA AD o)) noX 1 6 (lA AD o) := by
  refine nv_metH (cc := cL_refusal) (maxL := 4) (ret := (some .int)) (hh := [(0, 9, 12, 108)]) (by decide) rfl (Nat.le_of_ble_eq_true rfl) ?_
  intro p0 e0 s m0 args below meth c0 Q hq hargs hnA htb hpre ls hl
  obtain ⟨hx, hb, hr, hts, hown, hlocks, hml⟩ := hnA
  obtain ⟨⟨hP, hO⟩, hT, hX⟩ := hpre
  have hK := hT.1
  have hown : s.vm.findClass RL = some m0.cls := hown
  have hl : lv_has ls 4 [(0, .ref (AD 0)), (1, .int (nI z)), (2, .ref o)] := hl
  have hS : va_S (lA AD o) s.heap s.heap [] := va_S.rf
  refine lv_aload_n hx hb dL_refusal_0 rfl (lv_at hl 2 rfl) ?_
  refine lv_iconst (v := nI 0) hx hb dL_refusal_1 (by decide) ?_
  refine lv_aload_n hx hb dL_refusal_2 rfl (lv_at hl 0 rfl) ?_
  refine lv_iload_n hx hb dL_refusal_3 rfl (lv_at hl 1 rfl) ?_
  refine nv_kLX (vx_runV (As := [.int (nI z)]) (rest := [.int (nI 0), .ref o]) ⟨hx, hb, hml, hown, hts⟩ (c_X6_refusal l hl9 (A := cRg AD 0 165) (b := 0) z hz hwy) (cwV 1 hts gL_refusal_X6_refusal rfl rfl rfl (by decide +kernel) ⟨Nat.le_of_ble_eq_true rfl, Nat.le_of_ble_eq_true rfl⟩) (nt_pVn hT hS (fun _ h => Or.inl h) hP (va_recv hK.1 hP.1 (ci := 8) (q0 := 0) rfl rfl)) rfl rfl hl.1 rfl (lv_room (Nat.le_of_ble_eq_true rfl)) dL_refusal_4 ⟨Nat.le_of_ble_eq_true rfl, Nat.le_of_ble_eq_true rfl⟩) hS (fun _ h => Or.inl h) (fun E ce q9 H1 locs1 h0 hE hP1 hK1 hS1 hcell hv9 hcl => ?_) (fun H1 locs1 h0 hP1 hK1 hS1 => ?_)
  · have ht := nv_th1 (t := (if wy = 0 then 1 else 0)) h0 (by (repeat' split) <;> decide)
    rw [ht] at hE
    have hE : E = "java/lang/IllegalStateException" := hE
    subst hE
    refine vx_catch (own := RL) (name := "java/lang/IllegalStateException") hown (tableOf []) ⟨0, 9, 12, 108⟩ (tableOf []) (by rw [htb]; rfl) (fun z hz => nomatch hz) (by decide) (by decide) (hts _ (List.mem_of_getElem? (i := 1) rfl)) (va_Nw.use rfl (hT.2.2.2.2.2.1 _ (by decide +kernel))) hcell hv9 hcl ?_
    refine lv_astore_n (lv' := [(3, .ref q9), (0, .ref (AD 0)), (1, .int (nI z)), (2, .ref o)]) hx hb dL_refusal_12 rfl hl (by decide) rfl (fun ls hl => ?_)
    refine lv_iconst (v := nI 1) hx hb dL_refusal_13 (by decide) ?_
    exact nv_retL hq hx hb hr hlocks (Nat.le_of_ble_eq_true rfl) (Nat.le_of_ble_eq_true rfl) (by rw [ht]) hS1 ⟨hP1, (hO.kept hK1 ho).imp (fun _ _ z => absurd z h0)⟩ dL_refusal_14
  · have hO1 := hO.kept hK1 ho
    generalize H1 = H at hP1 hK1 hS1 hO1 ⊢
    refine lv_i2l hx hb dL_refusal_7 rfl ?_
    refine nv_lastO hx hb hX.1 0 rfl hO1 hS1 (Or.inr rfl) dL_refusal_8 (fun H2 locs2 hO2 hK2 hS2 => ?_)
    refine lv_goto (tgt := 15) hx hb dL_refusal_9 (by decide) ?_
    refine lv_iconst (v := nI 0) hx hb dL_refusal_15 (by decide) ?_
    exact nv_retL hq hx hb hr hlocks (Nat.le_of_ble_eq_true rfl) (Nat.le_of_ble_eq_true rfl) (by rw [h0]) hS2 ⟨cOn_W.out ho hK2 hP1, hO2.imp (fun _ z _ => z)⟩ dL_refusal_16

set_option maxHeartbeats 1000000 in
set_option maxRecDepth 100000 in
theorem c_L_account (l : Launch) (hl9 : l.stackTraces = false) {D : va_G} {cI cC cD cR : ClassId} {sa : sA} {AD : Nat → Nat} {cL cB : ClassId} {o : Nat} (ho : ¬ cRg AD 0 165 o) {G Sv Hi In Le : Nat → Nat} {b hs ch ty wy ln : Nat} {ea ra wd : Int32} (hG : gWf b G) (hI : cInj AD) (w : Int32) : vx_Met l yL_account wsL_account ({ frames := 7, cells := 1, slots := 6, locals := 103 }) (va_Pc [.ref (AD 0), .int w, .ref o] (lPre D [(cI, .int), (cC, .char), (cD, .object "DoorDialect$Door"), (cR, .object "DoorDialect$House")] nN sa (lA AD o) cL cB (fun H => (cW D cI cC cD cR AD G Sv Hi In Le hs ch ty wy ln ea ra wd) H ∧ outL D cL o (fun _ => True) H))) (gQ (nI (if iR w 13 then 0 else 1)) (fun H => (cW D cI cC cD cR AD G Sv Hi In Le hs ch ty wy ln ea ra wd) H ∧ outL D cL o (fun w9 => (if iR w 13 then 0 else 1) = 0 → w9 = (((if iR w 13 then nI (qAcc G ty ch (tN w)) else 0))).toInt64) H) (lA AD o)) noX 1 6 (lA AD o) := by
  refine nv_metH (cc := cL_account) (maxL := 4) (ret := (some .int)) (hh := [(0, 9, 12, 13)]) (by decide) rfl (Nat.le_of_ble_eq_true rfl) ?_
  intro p0 e0 s m0 args below meth c0 Q hq hargs hnA htb hpre ls hl
  obtain ⟨hx, hb, hr, hts, hown, hlocks, hml⟩ := hnA
  obtain ⟨⟨hP, hO⟩, hT, hX⟩ := hpre
  have hK := hT.1
  have hown : s.vm.findClass RL = some m0.cls := hown
  have hl : lv_has ls 4 [(0, .ref (AD 0)), (1, .int w), (2, .ref o)] := hl
  have hS : va_S (lA AD o) s.heap s.heap [] := va_S.rf
  refine lv_aload_n hx hb dL_account_0 rfl (lv_at hl 2 rfl) ?_
  refine lv_iconst (v := nI 0) hx hb dL_account_1 (by decide) ?_
  refine lv_aload_n hx hb dL_account_2 rfl (lv_at hl 0 rfl) ?_
  refine lv_iload_n hx hb dL_account_3 rfl (lv_at hl 1 rfl) ?_
  refine nv_kLX (vx_runV (As := [.int w]) (rest := [.int (nI 0), .ref o]) ⟨hx, hb, hml, hown, hts⟩ (c_X6_account l hl9 (A := cRg AD 0 165) hG hI cRg_self w) (cwV 1 hts gL_account_X6_account rfl rfl rfl (by decide +kernel) ⟨Nat.le_of_ble_eq_true rfl, Nat.le_of_ble_eq_true rfl⟩) (nt_pVn hT hS (fun _ h => Or.inl h) hP (va_recv hK.1 hP.1 (ci := 8) (q0 := 0) rfl rfl)) rfl rfl hl.1 rfl (lv_room (Nat.le_of_ble_eq_true rfl)) dL_account_4 ⟨Nat.le_of_ble_eq_true rfl, Nat.le_of_ble_eq_true rfl⟩) hS (fun _ h => Or.inl h) (fun E ce q9 H1 locs1 h0 hE hP1 hK1 hS1 hcell hv9 hcl => ?_) (fun H1 locs1 h0 hP1 hK1 hS1 => ?_)
  · have ht := nv_th1 (t := (if iR w 13 then 0 else 1)) h0 (by (repeat' split) <;> decide)
    rw [ht] at hE
    have hE : E = "java/lang/IllegalArgumentException" := hE
    subst hE
    refine vx_catch (own := RL) (name := "java/lang/IllegalArgumentException") hown (tableOf []) ⟨0, 9, 12, 13⟩ (tableOf []) (by rw [htb]; rfl) (fun z hz => nomatch hz) (by decide) (by decide) (hts _ (List.mem_of_getElem? (i := 1) rfl)) (va_Nw.use rfl (hT.2.2.2.2.2.1 _ (by decide +kernel))) hcell hv9 hcl ?_
    refine lv_astore_n (lv' := [(3, .ref q9), (0, .ref (AD 0)), (1, .int w), (2, .ref o)]) hx hb dL_account_12 rfl hl (by decide) rfl (fun ls hl => ?_)
    refine lv_iconst (v := nI 1) hx hb dL_account_13 (by decide) ?_
    exact nv_retL hq hx hb hr hlocks (Nat.le_of_ble_eq_true rfl) (Nat.le_of_ble_eq_true rfl) (by rw [ht]) hS1 ⟨hP1, (hO.kept hK1 ho).imp (fun _ _ z => absurd z h0)⟩ dL_account_14
  · have hO1 := hO.kept hK1 ho
    generalize H1 = H at hP1 hK1 hS1 hO1 ⊢
    refine lv_i2l hx hb dL_account_7 rfl ?_
    refine nv_lastO hx hb hX.1 0 rfl hO1 hS1 (Or.inr rfl) dL_account_8 (fun H2 locs2 hO2 hK2 hS2 => ?_)
    refine lv_goto (tgt := 15) hx hb dL_account_9 (by decide) ?_
    refine lv_iconst (v := nI 0) hx hb dL_account_15 (by decide) ?_
    exact nv_retL hq hx hb hr hlocks (Nat.le_of_ble_eq_true rfl) (Nat.le_of_ble_eq_true rfl) (by rw [h0]) hS2 ⟨cOn_W.out ho hK2 hP1, hO2.imp (fun _ z _ => z)⟩ dL_account_16

set_option maxHeartbeats 1000000 in
set_option maxRecDepth 100000 in
theorem c_L_meanKnocks (l : Launch) (hl9 : l.stackTraces = false) {D : va_G} {cI cC cD cR : ClassId} {sa : sA} {AD : Nat → Nat} {cL cB : ClassId} {o : Nat} (ho : ¬ cRg AD 0 165 o) {G Sv Hi In Le : Nat → Nat} {b hs ch ty wy ln : Nat} {ea ra wd : Int32} (hG : gWf b G) (hI : cInj AD) : vx_Met l yL_meanKnocks wsL_meanKnocks ({ frames := 7, cells := 1, slots := 6, locals := 102 }) (va_Pc [.ref (AD 0), .ref o] (lPre D [(cI, .int), (cC, .char), (cD, .object "DoorDialect$Door"), (cR, .object "DoorDialect$House")] nN sa (lA AD o) cL cB (fun H => (cW D cI cC cD cR AD G Sv Hi In Le hs ch ty wy ln ea ra wd) H ∧ outB D cB o (fun _ => True) H))) (gQ (nI (if G 0 = 0 then 1 else 0)) (fun H => (cW D cI cC cD cR AD G Sv Hi In Le hs ch ty wy ln ea ra wd) H ∧ outB D cB o (fun w9 => (if G 0 = 0 then 1 else 0) = 0 → w9 = ((if G 0 = 0 then FP.dconst0 else FP.ddiv (FP.i2d (nI (G 3))) (FP.i2d (nI (G 0)))))) H) (lA AD o)) noX 1 6 (lA AD o) := by
  refine nv_metH (cc := cL_meanKnocks) (maxL := 3) (ret := (some .int)) (hh := [(0, 7, 10, 117)]) (by decide) rfl (Nat.le_of_ble_eq_true rfl) ?_
  intro p0 e0 s m0 args below meth c0 Q hq hargs hnA htb hpre ls hl
  obtain ⟨hx, hb, hr, hts, hown, hlocks, hml⟩ := hnA
  obtain ⟨⟨hP, hO⟩, hT, hX⟩ := hpre
  have hK := hT.1
  have hown : s.vm.findClass RL = some m0.cls := hown
  have hl : lv_has ls 3 [(0, .ref (AD 0)), (1, .ref o)] := hl
  have hS : va_S (lA AD o) s.heap s.heap [] := va_S.rf
  refine lv_aload_n hx hb dL_meanKnocks_0 rfl (lv_at hl 1 rfl) ?_
  refine lv_iconst (v := nI 0) hx hb dL_meanKnocks_1 (by decide) ?_
  refine lv_aload_n hx hb dL_meanKnocks_2 rfl (lv_at hl 0 rfl) ?_
  refine nv_kLXd (vx_runV (As := []) (rest := [.int (nI 0), .ref o]) ⟨hx, hb, hml, hown, hts⟩ (c_X6_meanKnocks l hl9 (A := cRg AD 0 165) hG hI cRg_self) (cwV 0 hts gL_meanKnocks_X6_meanKnocks rfl rfl rfl (by decide +kernel) ⟨Nat.le_of_ble_eq_true rfl, Nat.le_of_ble_eq_true rfl⟩) (nt_pVn hT hS (fun _ h => Or.inl h) hP (va_recv hK.1 hP.1 (ci := 8) (q0 := 0) rfl rfl)) rfl rfl hl.1 rfl (lv_room (Nat.le_of_ble_eq_true rfl)) dL_meanKnocks_3 ⟨Nat.le_of_ble_eq_true rfl, Nat.le_of_ble_eq_true rfl⟩) hS (fun _ h => Or.inl h) (fun E ce q9 H1 locs1 h0 hE hP1 hK1 hS1 hcell hv9 hcl => ?_) (fun H1 locs1 h0 hP1 hK1 hS1 => ?_)
  · have ht := nv_th1 (t := (if G 0 = 0 then 1 else 0)) h0 (by (repeat' split) <;> decide)
    rw [ht] at hE
    have hE : E = "java/lang/ArithmeticException" := hE
    subst hE
    refine vx_catch (own := RL) (name := "java/lang/ArithmeticException") hown (tableOf []) ⟨0, 7, 10, 117⟩ (tableOf []) (by rw [htb]; rfl) (fun z hz => nomatch hz) (by decide) (by decide) (hts _ (List.mem_of_getElem? (i := 1) rfl)) (va_Nw.use rfl (hT.2.2.2.2.2.1 _ (by decide +kernel))) hcell hv9 hcl ?_
    refine lv_astore_n (lv' := [(2, .ref q9), (0, .ref (AD 0)), (1, .ref o)]) hx hb dL_meanKnocks_10 rfl hl (by decide) rfl (fun ls hl => ?_)
    refine lv_iconst (v := nI 1) hx hb dL_meanKnocks_11 (by decide) ?_
    exact nv_retL hq hx hb hr hlocks (Nat.le_of_ble_eq_true rfl) (Nat.le_of_ble_eq_true rfl) (by rw [ht]) hS1 ⟨hP1, (hO.kept hK1 ho).imp (fun _ _ z => absurd z h0)⟩ dL_meanKnocks_12
  · have hO1 := hO.kept hK1 ho
    generalize H1 = H at hP1 hK1 hS1 hO1 ⊢
    refine nv_dastO hx hb hX.1 1 rfl hO1 hS1 (Or.inr rfl) dL_meanKnocks_6 (fun H2 locs2 hO2 hK2 hS2 => ?_)
    refine lv_goto (tgt := 13) hx hb dL_meanKnocks_7 (by decide) ?_
    refine lv_iconst (v := nI 0) hx hb dL_meanKnocks_13 (by decide) ?_
    exact nv_retL hq hx hb hr hlocks (Nat.le_of_ble_eq_true rfl) (Nat.le_of_ble_eq_true rfl) (by rw [h0]) hS2 ⟨cOn_W.out ho hK2 hP1, hO2.imp (fun _ z _ => z)⟩ dL_meanKnocks_14

set_option maxHeartbeats 1000000 in
set_option maxRecDepth 100000 in
theorem c_L_agreedShare (l : Launch) (hl9 : l.stackTraces = false) {D : va_G} {cI cC cD cR : ClassId} {sa : sA} {AD : Nat → Nat} {cL cB : ClassId} {o : Nat} (ho : ¬ cRg AD 0 165 o) {G Sv Hi In Le : Nat → Nat} {b hs ch ty wy ln : Nat} {ea ra wd : Int32} (hG : gWf b G) (hI : cInj AD) (h13 : b < 8192) : vx_Met l yL_agreedShare wsL_agreedShare ({ frames := 7, cells := 1, slots := 6, locals := 103 }) (va_Pc [.ref (AD 0), .ref o] (lPre D [(cI, .int), (cC, .char), (cD, .object "DoorDialect$Door"), (cR, .object "DoorDialect$House")] nN sa (lA AD o) cL cB (fun H => (cW D cI cC cD cR AD G Sv Hi In Le hs ch ty wy ln ea ra wd) H ∧ outB D cB o (fun _ => True) H))) (gQ (nI (if G 3 = 0 then 1 else 0)) (fun H => (cW D cI cC cD cR AD G Sv Hi In Le hs ch ty wy ln ea ra wd) H ∧ outB D cB o (fun w9 => (if G 3 = 0 then 1 else 0) = 0 → w9 = FP.f2d ((if G 3 = 0 then FP.fconst0 else FP.fdiv (FP.i2f (nI (G 4))) (FP.i2f (nI (G 3)))))) H) (lA AD o)) noX 1 6 (lA AD o) := by
  refine nv_metH (cc := cL_agreedShare) (maxL := 3) (ret := (some .int)) (hh := [(0, 8, 11, 117)]) (by decide) rfl (Nat.le_of_ble_eq_true rfl) ?_
  intro p0 e0 s m0 args below meth c0 Q hq hargs hnA htb hpre ls hl
  obtain ⟨hx, hb, hr, hts, hown, hlocks, hml⟩ := hnA
  obtain ⟨⟨hP, hO⟩, hT, hX⟩ := hpre
  have hK := hT.1
  have hown : s.vm.findClass RL = some m0.cls := hown
  have hl : lv_has ls 3 [(0, .ref (AD 0)), (1, .ref o)] := hl
  have hS : va_S (lA AD o) s.heap s.heap [] := va_S.rf
  refine lv_aload_n hx hb dL_agreedShare_0 rfl (lv_at hl 1 rfl) ?_
  refine lv_iconst (v := nI 0) hx hb dL_agreedShare_1 (by decide) ?_
  refine lv_aload_n hx hb dL_agreedShare_2 rfl (lv_at hl 0 rfl) ?_
  refine nv_kLXf (vx_runV (As := []) (rest := [.int (nI 0), .ref o]) ⟨hx, hb, hml, hown, hts⟩ (c_X6_agreedShare l hl9 (A := cRg AD 0 165) hG hI cRg_self h13) (cwV 0 hts gL_agreedShare_X6_agreedShare rfl rfl rfl (by decide +kernel) ⟨Nat.le_of_ble_eq_true rfl, Nat.le_of_ble_eq_true rfl⟩) (nt_pVn hT hS (fun _ h => Or.inl h) hP (va_recv hK.1 hP.1 (ci := 8) (q0 := 0) rfl rfl)) rfl rfl hl.1 rfl (lv_room (Nat.le_of_ble_eq_true rfl)) dL_agreedShare_3 ⟨Nat.le_of_ble_eq_true rfl, Nat.le_of_ble_eq_true rfl⟩) hS (fun _ h => Or.inl h) (fun E ce q9 H1 locs1 h0 hE hP1 hK1 hS1 hcell hv9 hcl => ?_) (fun H1 locs1 h0 hP1 hK1 hS1 => ?_)
  · have ht := nv_th1 (t := (if G 3 = 0 then 1 else 0)) h0 (by (repeat' split) <;> decide)
    rw [ht] at hE
    have hE : E = "java/lang/ArithmeticException" := hE
    subst hE
    refine vx_catch (own := RL) (name := "java/lang/ArithmeticException") hown (tableOf []) ⟨0, 8, 11, 117⟩ (tableOf []) (by rw [htb]; rfl) (fun z hz => nomatch hz) (by decide) (by decide) (hts _ (List.mem_of_getElem? (i := 1) rfl)) (va_Nw.use rfl (hT.2.2.2.2.2.1 _ (by decide +kernel))) hcell hv9 hcl ?_
    refine lv_astore_n (lv' := [(2, .ref q9), (0, .ref (AD 0)), (1, .ref o)]) hx hb dL_agreedShare_11 rfl hl (by decide) rfl (fun ls hl => ?_)
    refine lv_iconst (v := nI 1) hx hb dL_agreedShare_12 (by decide) ?_
    exact nv_retL hq hx hb hr hlocks (Nat.le_of_ble_eq_true rfl) (Nat.le_of_ble_eq_true rfl) (by rw [ht]) hS1 ⟨hP1, (hO.kept hK1 ho).imp (fun _ _ z => absurd z h0)⟩ dL_agreedShare_13
  · have hO1 := hO.kept hK1 ho
    generalize H1 = H at hP1 hK1 hS1 hO1 ⊢
    refine lv_f2d hx hb dL_agreedShare_6 (nf_f2d (nf_share (Nat.lt_of_le_of_lt (hG.2.1 3 (by decide)) h13))) ?_
    refine nv_dastO hx hb hX.1 1 rfl hO1 hS1 (Or.inr rfl) dL_agreedShare_7 (fun H2 locs2 hO2 hK2 hS2 => ?_)
    refine lv_goto (tgt := 14) hx hb dL_agreedShare_8 (by decide) ?_
    refine lv_iconst (v := nI 0) hx hb dL_agreedShare_14 (by decide) ?_
    exact nv_retL hq hx hb hr hlocks (Nat.le_of_ble_eq_true rfl) (Nat.le_of_ble_eq_true rfl) (by rw [h0]) hS2 ⟨cOn_W.out ho hK2 hP1, hO2.imp (fun _ z _ => z)⟩ dL_agreedShare_15

set_option maxHeartbeats 1000000 in
set_option maxRecDepth 100000 in
theorem c_L_append (l : Launch) (hl9 : l.stackTraces = false) {D : va_G} {cI cC cD cR : ClassId} {sa : sA} {AD : Nat → Nat} {cL cB : ClassId} {o : Nat} (ho : ¬ cRg AD 0 165 o) {G Sv Hi In Le : Nat → Nat} {hs ch ty wy ln : Nat} {ea ra wd : Int32} (hI : cInj AD) (p : Int32) (hty : ty ≤ 60) : vx_Met l yL_append wsL_append ({ frames := 7, cells := 1, slots := 6, locals := 106 }) (va_Pc [.ref (AD 0), .int p, .ref o] (lPre D [(cI, .int), (cC, .char), (cD, .object "DoorDialect$Door"), (cR, .object "DoorDialect$House")] nN sa (lA AD o) cL cB (fun H => (cW D cI cC cD cR AD G Sv Hi In Le hs ch ty wy ln ea ra wd) H ∧ outL D cL o (fun _ => True) H))) (gQ (nI (if 4 < sm (bC p) 4 then 1 else (if 60 < ty + sm (bC p) 4 then 2 else 0))) (fun H => (cW D cI cC cD cR AD G Sv Hi ((if 4 < sm (bC p) 4 then In else (if 60 < ty + sm (bC p) 4 then In else (apI In ty p 4).1))) Le hs ch ((if 4 < sm (bC p) 4 then ty else (if 60 < ty + sm (bC p) 4 then ty else (apI In ty p 4).2))) wy ln ea ra wd) H ∧ outL D cL o (fun w9 => (if 4 < sm (bC p) 4 then 1 else (if 60 < ty + sm (bC p) 4 then 2 else 0)) = 0 → w9 = (((if 4 < sm (bC p) 4 then 0 else (if 60 < ty + sm (bC p) 4 then 0 else nI (apI In ty p 4).2)))).toInt64) H) (lA AD o)) noX 1 6 (lA AD o) := by
  refine nv_metH (cc := cL_append) (maxL := 4) (ret := (some .int)) (hh := [(0, 9, 12, 13), (0, 9, 15, 108)]) (by decide) rfl (Nat.le_of_ble_eq_true rfl) ?_
  intro p0 e0 s m0 args below meth c0 Q hq hargs hnA htb hpre ls hl
  obtain ⟨hx, hb, hr, hts, hown, hlocks, hml⟩ := hnA
  obtain ⟨⟨hP, hO⟩, hT, hX⟩ := hpre
  have hK := hT.1
  have hown : s.vm.findClass RL = some m0.cls := hown
  have hl : lv_has ls 4 [(0, .ref (AD 0)), (1, .int p), (2, .ref o)] := hl
  have hS : va_S (lA AD o) s.heap s.heap [] := va_S.rf
  refine lv_aload_n hx hb dL_append_0 rfl (lv_at hl 2 rfl) ?_
  refine lv_iconst (v := nI 0) hx hb dL_append_1 (by decide) ?_
  refine lv_aload_n hx hb dL_append_2 rfl (lv_at hl 0 rfl) ?_
  refine lv_iload_n hx hb dL_append_3 rfl (lv_at hl 1 rfl) ?_
  refine nv_kLX (vx_runV (As := [.int p]) (rest := [.int (nI 0), .ref o]) ⟨hx, hb, hml, hown, hts⟩ (c_X6_append l hl9 (A := cRg AD 0 165) (b := 0) hI cRg_self p hty) (cwV 1 hts gL_append_X6_append rfl rfl rfl (by decide +kernel) ⟨Nat.le_of_ble_eq_true rfl, Nat.le_of_ble_eq_true rfl⟩) (nt_pVn hT hS (fun _ h => Or.inl h) hP (va_recv hK.1 hP.1 (ci := 8) (q0 := 0) rfl rfl)) rfl rfl hl.1 rfl (lv_room (Nat.le_of_ble_eq_true rfl)) dL_append_4 ⟨Nat.le_of_ble_eq_true rfl, Nat.le_of_ble_eq_true rfl⟩) hS (fun _ h => Or.inl h) (fun E ce q9 H1 locs1 h0 hE hP1 hK1 hS1 hcell hv9 hcl => ?_) (fun H1 locs1 h0 hP1 hK1 hS1 => ?_)
  · rcases nv_th2 (t := (if 4 < sm (bC p) 4 then 1 else (if 60 < ty + sm (bC p) 4 then 2 else 0))) h0 (by (repeat' split) <;> decide) with ht | ht
    · rw [ht] at hE
      have hE : E = "java/lang/IllegalArgumentException" := hE
      subst hE
      refine vx_catch (own := RL) (name := "java/lang/IllegalArgumentException") hown (tableOf []) ⟨0, 9, 12, 13⟩ (tableOf [(0, 9, 15, 108)]) (by rw [htb]; rfl) (fun z hz => nomatch hz) (by decide) (by decide) (hts _ (List.mem_of_getElem? (i := 1) rfl)) (va_Nw.use rfl (hT.2.2.2.2.2.1 _ (by decide +kernel))) hcell hv9 hcl ?_
      refine lv_astore_n (lv' := [(3, .ref q9), (0, .ref (AD 0)), (1, .int p), (2, .ref o)]) hx hb dL_append_12 rfl hl (by decide) rfl (fun ls hl => ?_)
      refine lv_iconst (v := nI 1) hx hb dL_append_13 (by decide) ?_
      exact nv_retL hq hx hb hr hlocks (Nat.le_of_ble_eq_true rfl) (Nat.le_of_ble_eq_true rfl) (by rw [ht]) hS1 ⟨hP1, (hO.kept hK1 ho).imp (fun _ _ z => absurd z h0)⟩ dL_append_14
    · rw [ht] at hE
      have hE : E = "java/lang/IllegalStateException" := hE
      subst hE
      have hp0 : (13 : Nat) ≠ 0 ∧ ∃ nm : String, (Cond.classLink RL 13 nm).before args s = true ∧ va_Nc "java/lang/IllegalStateException" nm s := ⟨by decide, "java/lang/IllegalArgumentException", hts _ (List.mem_of_getElem? (i := 1) rfl), hX.2 _ (by decide +kernel) _ (by decide +kernel) (by decide +kernel)⟩
      refine vx_catch (own := RL) (name := "java/lang/IllegalStateException") hown (tableOf [(0, 9, 12, 13)]) ⟨0, 9, 15, 108⟩ (tableOf []) (by rw [htb]; rfl) (nv_pass (fun x hx9 => by obtain rfl := List.mem_singleton.mp hx9; exact hp0)) (by decide) (by decide) (hts _ (List.mem_of_getElem? (i := 2) rfl)) (va_Nw.use rfl (hT.2.2.2.2.2.1 _ (by decide +kernel))) hcell hv9 hcl ?_
      refine lv_astore_n (lv' := [(3, .ref q9), (0, .ref (AD 0)), (1, .int p), (2, .ref o)]) hx hb dL_append_15 rfl hl (by decide) rfl (fun ls hl => ?_)
      refine lv_iconst (v := nI 2) hx hb dL_append_16 (by decide) ?_
      exact nv_retL hq hx hb hr hlocks (Nat.le_of_ble_eq_true rfl) (Nat.le_of_ble_eq_true rfl) (by rw [ht]) hS1 ⟨hP1, (hO.kept hK1 ho).imp (fun _ _ z => absurd z h0)⟩ dL_append_17
  · have hO1 := hO.kept hK1 ho
    generalize H1 = H at hP1 hK1 hS1 hO1 ⊢
    refine lv_i2l hx hb dL_append_7 rfl ?_
    refine nv_lastO hx hb hX.1 0 rfl hO1 hS1 (Or.inr rfl) dL_append_8 (fun H2 locs2 hO2 hK2 hS2 => ?_)
    refine lv_goto (tgt := 18) hx hb dL_append_9 (by decide) ?_
    refine lv_iconst (v := nI 0) hx hb dL_append_18 (by decide) ?_
    exact nv_retL hq hx hb hr hlocks (Nat.le_of_ble_eq_true rfl) (Nat.le_of_ble_eq_true rfl) (by rw [h0]) hS2 ⟨cOn_W.out ho hK2 hP1, hO2.imp (fun _ z _ => z)⟩ dL_append_19

set_option maxHeartbeats 1000000 in
set_option maxRecDepth 100000 in
theorem c_L_read (l : Launch) (hl9 : l.stackTraces = false) {D : va_G} {cI cC cD cR : ClassId} {sa : sA} {AD : Nat → Nat} {cL cB : ClassId} {o : Nat} (ho : ¬ cRg AD 0 165 o) {G Sv Hi In Le : Nat → Nat} {b hs ch ty wy ln : Nat} {ea ra wd : Int32} (hG : gWf b G) (hI : cInj AD) (hch : ch ≤ 8) (hHw : ∀ j, j < ch → hAt Hi j 0 ≤ 8 ∧ hAt Hi j 1 ≤ 6 ∧ hAt Hi j 2 ≤ 5) (h25 : 25 ≤ b) (hb32 : b + 32 < 2 ^ 20) (hty : ty ≤ 60) (hS7 : ∀ i, i < ty → In i < 128) : vx_Met l yL_read wsL_read ({ frames := 10, cells := 1, slots := 6, locals := 226 }) (va_Pc [.ref (AD 0), .ref o] (lPre D [(cI, .int), (cC, .char), (cD, .object "DoorDialect$Door"), (cR, .object "DoorDialect$House")] nN sa (lA AD o) cL cB (fun H => (cW D cI cC cD cR AD G Sv Hi In Le hs ch ty wy ln ea ra wd) H ∧ outL D cL o (fun _ => True) H))) (gQ (nI ((if mal In ty then 1 else (if rS In ty G < kL In ty + 1 then 2 else 0)))) (fun H => (cW D cI cC cD cR AD ((if mal In ty then G else (if rS In ty G < kL In ty + 1 then G else (GS In ty G (kL In ty + 1))))) Sv ((if mal In ty then Hi else (if rS In ty G < kL In ty + 1 then Hi else (hPush Hi G ch)))) In Le hs ((if mal In ty then ch else (if rS In ty G < kL In ty + 1 then ch else (if ch = 8 then 8 else ch + 1)))) 0 ((if mal In ty then wy else (if rS In ty G < kL In ty + 1 then vWy (vS In ty G (rS In ty G)) wy else wy))) ln ((if mal In ty then nI (oE In ty (sn In ty (kL In ty))).1 else ea)) ((if mal In ty then ra else (if rS In ty G < kL In ty + 1 then nI (rS In ty G) else ra))) ((if mal In ty then wd else (if rS In ty G < kL In ty + 1 then vWd (vS In ty G (rS In ty G)) wd else wd)))) H ∧ outL D cL o (fun w9 => ((if mal In ty then 1 else (if rS In ty G < kL In ty + 1 then 2 else 0))) = 0 → w9 = (((if mal In ty then 0 else (if rS In ty G < kL In ty + 1 then 0 else nI (kL In ty + 1))))).toInt64) H) (lA AD o)) noX 1 6 (lA AD o) := by
  refine nv_metH (cc := cL_read) (maxL := 3) (ret := (some .int)) (hh := [(0, 8, 11, 13), (0, 8, 14, 17)]) (by decide) rfl (Nat.le_of_ble_eq_true rfl) ?_
  intro p0 e0 s m0 args below meth c0 Q hq hargs hnA htb hpre ls hl
  obtain ⟨hx, hb, hr, hts, hown, hlocks, hml⟩ := hnA
  obtain ⟨⟨hP, hO⟩, hT, hX⟩ := hpre
  have hK := hT.1
  have hown : s.vm.findClass RL = some m0.cls := hown
  have hl : lv_has ls 3 [(0, .ref (AD 0)), (1, .ref o)] := hl
  have hS : va_S (lA AD o) s.heap s.heap [] := va_S.rf
  refine lv_aload_n hx hb dL_read_0 rfl (lv_at hl 1 rfl) ?_
  refine lv_iconst (v := nI 0) hx hb dL_read_1 (by decide) ?_
  refine lv_aload_n hx hb dL_read_2 rfl (lv_at hl 0 rfl) ?_
  refine nv_kLX (vx_runV (As := []) (rest := [.int (nI 0), .ref o]) ⟨hx, hb, hml, hown, hts⟩ (c_X6_read l hl9 (A := cRg AD 0 165) hG hI cRg_self hch hHw h25 hb32 hty hS7) (cwV 0 hts gL_read_X6_read rfl rfl rfl (by decide +kernel) ⟨Nat.le_of_ble_eq_true rfl, Nat.le_of_ble_eq_true rfl⟩) (nt_pVn hT hS (fun _ h => Or.inl h) hP (va_recv hK.1 hP.1 (ci := 8) (q0 := 0) rfl rfl)) rfl rfl hl.1 rfl (lv_room (Nat.le_of_ble_eq_true rfl)) dL_read_3 ⟨Nat.le_of_ble_eq_true rfl, Nat.le_of_ble_eq_true rfl⟩) hS (fun _ h => Or.inl h) (fun E ce q9 H1 locs1 h0 hE hP1 hK1 hS1 hcell hv9 hcl => ?_) (fun H1 locs1 h0 hP1 hK1 hS1 => ?_)
  · rcases nv_th2 (t := ((if mal In ty then 1 else (if rS In ty G < kL In ty + 1 then 2 else 0)))) h0 (by (repeat' split) <;> decide) with ht | ht
    · rw [ht] at hE
      have hE : E = "java/lang/IllegalArgumentException" := hE
      subst hE
      refine vx_catch (own := RL) (name := "java/lang/IllegalArgumentException") hown (tableOf []) ⟨0, 8, 11, 13⟩ (tableOf [(0, 8, 14, 17)]) (by rw [htb]; rfl) (fun z hz => nomatch hz) (by decide) (by decide) (hts _ (List.mem_of_getElem? (i := 1) rfl)) (va_Nw.use rfl (hT.2.2.2.2.2.1 _ (by decide +kernel))) hcell hv9 hcl ?_
      refine lv_astore_n (lv' := [(2, .ref q9), (0, .ref (AD 0)), (1, .ref o)]) hx hb dL_read_11 rfl hl (by decide) rfl (fun ls hl => ?_)
      refine lv_iconst (v := nI 1) hx hb dL_read_12 (by decide) ?_
      exact nv_retL hq hx hb hr hlocks (Nat.le_of_ble_eq_true rfl) (Nat.le_of_ble_eq_true rfl) (by rw [ht]) hS1 ⟨hP1, (hO.kept hK1 ho).imp (fun _ _ z => absurd z h0)⟩ dL_read_13
    · rw [ht] at hE
      have hE : E = "java/lang/UnsupportedOperationException" := hE
      subst hE
      have hp0 : (13 : Nat) ≠ 0 ∧ ∃ nm : String, (Cond.classLink RL 13 nm).before args s = true ∧ va_Nc "java/lang/UnsupportedOperationException" nm s := ⟨by decide, "java/lang/IllegalArgumentException", hts _ (List.mem_of_getElem? (i := 1) rfl), hX.2 _ (by decide +kernel) _ (by decide +kernel) (by decide +kernel)⟩
      refine vx_catch (own := RL) (name := "java/lang/UnsupportedOperationException") hown (tableOf [(0, 8, 11, 13)]) ⟨0, 8, 14, 17⟩ (tableOf []) (by rw [htb]; rfl) (nv_pass (fun x hx9 => by obtain rfl := List.mem_singleton.mp hx9; exact hp0)) (by decide) (by decide) (hts _ (List.mem_of_getElem? (i := 2) rfl)) (va_Nw.use rfl (hT.2.2.2.2.2.1 _ (by decide +kernel))) hcell hv9 hcl ?_
      refine lv_astore_n (lv' := [(2, .ref q9), (0, .ref (AD 0)), (1, .ref o)]) hx hb dL_read_14 rfl hl (by decide) rfl (fun ls hl => ?_)
      refine lv_iconst (v := nI 2) hx hb dL_read_15 (by decide) ?_
      exact nv_retL hq hx hb hr hlocks (Nat.le_of_ble_eq_true rfl) (Nat.le_of_ble_eq_true rfl) (by rw [ht]) hS1 ⟨hP1, (hO.kept hK1 ho).imp (fun _ _ z => absurd z h0)⟩ dL_read_16
  · have hO1 := hO.kept hK1 ho
    generalize H1 = H at hP1 hK1 hS1 hO1 ⊢
    refine lv_i2l hx hb dL_read_6 rfl ?_
    refine nv_lastO hx hb hX.1 0 rfl hO1 hS1 (Or.inr rfl) dL_read_7 (fun H2 locs2 hO2 hK2 hS2 => ?_)
    refine lv_goto (tgt := 17) hx hb dL_read_8 (by decide) ?_
    refine lv_iconst (v := nI 0) hx hb dL_read_17 (by decide) ?_
    exact nv_retL hq hx hb hr hlocks (Nat.le_of_ble_eq_true rfl) (Nat.le_of_ble_eq_true rfl) (by rw [h0]) hS2 ⟨cOn_W.out ho hK2 hP1, hO2.imp (fun _ z _ => z)⟩ dL_read_18

set_option maxHeartbeats 1000000 in
set_option maxRecDepth 100000 in
theorem c_L_errorPosition (l : Launch) (hl9 : l.stackTraces = false) {D : va_G} {cI cC cD cR : ClassId} {sa : sA} {AD : Nat → Nat} {cL cB : ClassId} {o : Nat} (ho : ¬ cRg AD 0 165 o) {G Sv Hi In Le : Nat → Nat} {hs ch ty wy ln : Nat} {ea ra wd : Int32} : vx_Met l yL_errorPosition wsNL_errorPosition ({ frames := 7, cells := 1, slots := 6, locals := 102 }) (va_Pc [.ref (AD 0), .ref o] (lPre D [(cI, .int), (cC, .char), (cD, .object "DoorDialect$Door"), (cR, .object "DoorDialect$House")] nN sa (lA AD o) cL cB (fun H => (cW D cI cC cD cR AD G Sv Hi In Le hs ch ty wy ln ea ra wd) H ∧ outL D cL o (fun _ => True) H))) (gQ (nI (if ea = -1 then 1 else 0)) (fun H => (cW D cI cC cD cR AD G Sv Hi In Le hs ch ty wy ln ea ra wd) H ∧ outL D cL o (fun w9 => (if ea = -1 then 1 else 0) = 0 → w9 = (((if ea = -1 then 0 else ea))).toInt64) H) (lA AD o)) noX 1 6 (lA AD o) := by
  refine nv_metH (cc := cL_errorPosition) (maxL := 3) (ret := (some .int)) (hh := [(0, 8, 11, 83)]) (by decide) rfl (Nat.le_of_ble_eq_true rfl) ?_
  intro p0 e0 s m0 args below meth c0 Q hq hargs hnA htb hpre ls hl
  obtain ⟨hx, hb, hr, hts, hown, hlocks, hml⟩ := hnA
  obtain ⟨⟨hP, hO⟩, hT, hX⟩ := hpre
  have hK := hT.1
  have hown : s.vm.findClass RL = some m0.cls := hown
  have hl : lv_has ls 3 [(0, .ref (AD 0)), (1, .ref o)] := hl
  have hS : va_S (lA AD o) s.heap s.heap [] := va_S.rf
  refine lv_aload_n hx hb dL_errorPosition_0 rfl (lv_at hl 1 rfl) ?_
  refine lv_iconst (v := nI 0) hx hb dL_errorPosition_1 (by decide) ?_
  refine lv_aload_n hx hb dL_errorPosition_2 rfl (lv_at hl 0 rfl) ?_
  refine nv_kLX (vx_runV (As := []) (rest := [.int (nI 0), .ref o]) ⟨hx, hb, hml, hown, hts⟩ (c_N6_errorPosition l hl9 (A := cRg AD 0 165) (b := 0)) (cwV 0 hts gNL_errorPosition_X6_errorPosition rfl rfl rfl (by decide +kernel) ⟨Nat.le_of_ble_eq_true rfl, Nat.le_of_ble_eq_true rfl⟩) (nt_pVn hT hS (fun _ h => Or.inl h) hP (va_recv hK.1 hP.1 (ci := 8) (q0 := 0) rfl rfl)) rfl rfl hl.1 rfl (lv_room (Nat.le_of_ble_eq_true rfl)) dL_errorPosition_3 ⟨Nat.le_of_ble_eq_true rfl, Nat.le_of_ble_eq_true rfl⟩) hS (fun _ h => Or.inl h) (fun E ce q9 H1 locs1 h0 hE hP1 hK1 hS1 hcell hv9 hcl => ?_) (fun H1 locs1 h0 hP1 hK1 hS1 => ?_)
  · have ht := nv_th1 (t := (if ea = -1 then 1 else 0)) h0 (by (repeat' split) <;> decide)
    rw [ht] at hE
    have hE : E = "java/util/NoSuchElementException" := hE
    subst hE
    refine vx_catch (own := RL) (name := "java/util/NoSuchElementException") hown (tableOf []) ⟨0, 8, 11, 83⟩ (tableOf []) (by rw [htb]; rfl) (fun z hz => nomatch hz) (by decide) (by decide) (hts _ (List.mem_of_getElem? (i := 1) rfl)) (va_Nw.use rfl (hT.2.2.2.2.2.1 _ (by decide +kernel))) hcell hv9 hcl ?_
    refine lv_astore_n (lv' := [(2, .ref q9), (0, .ref (AD 0)), (1, .ref o)]) hx hb dL_errorPosition_11 rfl hl (by decide) rfl (fun ls hl => ?_)
    refine lv_iconst (v := nI 1) hx hb dL_errorPosition_12 (by decide) ?_
    exact nv_retL hq hx hb hr hlocks (Nat.le_of_ble_eq_true rfl) (Nat.le_of_ble_eq_true rfl) (by rw [ht]) hS1 ⟨hP1, (hO.kept hK1 ho).imp (fun _ _ z => absurd z h0)⟩ dL_errorPosition_13
  · have hO1 := hO.kept hK1 ho
    generalize H1 = H at hP1 hK1 hS1 hO1 ⊢
    refine lv_i2l hx hb dL_errorPosition_6 rfl ?_
    refine nv_lastO hx hb hX.1 0 rfl hO1 hS1 (Or.inr rfl) dL_errorPosition_7 (fun H2 locs2 hO2 hK2 hS2 => ?_)
    refine lv_goto (tgt := 14) hx hb dL_errorPosition_8 (by decide) ?_
    refine lv_iconst (v := nI 0) hx hb dL_errorPosition_14 (by decide) ?_
    exact nv_retL hq hx hb hr hlocks (Nat.le_of_ble_eq_true rfl) (Nat.le_of_ble_eq_true rfl) (by rw [h0]) hS2 ⟨cOn_W.out ho hK2 hP1, hO2.imp (fun _ z _ => z)⟩ dL_errorPosition_15

set_option maxHeartbeats 1000000 in
set_option maxRecDepth 100000 in
theorem c_L_refusedItem (l : Launch) (hl9 : l.stackTraces = false) {D : va_G} {cI cC cD cR : ClassId} {sa : sA} {AD : Nat → Nat} {cL cB : ClassId} {o : Nat} (ho : ¬ cRg AD 0 165 o) {G Sv Hi In Le : Nat → Nat} {hs ch ty wy ln : Nat} {ea ra wd : Int32} : vx_Met l yL_refusedItem wsNL_refusedItem ({ frames := 7, cells := 1, slots := 6, locals := 102 }) (va_Pc [.ref (AD 0), .ref o] (lPre D [(cI, .int), (cC, .char), (cD, .object "DoorDialect$Door"), (cR, .object "DoorDialect$House")] nN sa (lA AD o) cL cB (fun H => (cW D cI cC cD cR AD G Sv Hi In Le hs ch ty wy ln ea ra wd) H ∧ outL D cL o (fun _ => True) H))) (gQ (nI (if ra = -1 then 1 else 0)) (fun H => (cW D cI cC cD cR AD G Sv Hi In Le hs ch ty wy ln ea ra wd) H ∧ outL D cL o (fun w9 => (if ra = -1 then 1 else 0) = 0 → w9 = (((if ra = -1 then 0 else ra))).toInt64) H) (lA AD o)) noX 1 6 (lA AD o) := by
  refine nv_metH (cc := cL_refusedItem) (maxL := 3) (ret := (some .int)) (hh := [(0, 8, 11, 83)]) (by decide) rfl (Nat.le_of_ble_eq_true rfl) ?_
  intro p0 e0 s m0 args below meth c0 Q hq hargs hnA htb hpre ls hl
  obtain ⟨hx, hb, hr, hts, hown, hlocks, hml⟩ := hnA
  obtain ⟨⟨hP, hO⟩, hT, hX⟩ := hpre
  have hK := hT.1
  have hown : s.vm.findClass RL = some m0.cls := hown
  have hl : lv_has ls 3 [(0, .ref (AD 0)), (1, .ref o)] := hl
  have hS : va_S (lA AD o) s.heap s.heap [] := va_S.rf
  refine lv_aload_n hx hb dL_refusedItem_0 rfl (lv_at hl 1 rfl) ?_
  refine lv_iconst (v := nI 0) hx hb dL_refusedItem_1 (by decide) ?_
  refine lv_aload_n hx hb dL_refusedItem_2 rfl (lv_at hl 0 rfl) ?_
  refine nv_kLX (vx_runV (As := []) (rest := [.int (nI 0), .ref o]) ⟨hx, hb, hml, hown, hts⟩ (c_N6_refusedItem l hl9 (A := cRg AD 0 165) (b := 0)) (cwV 0 hts gNL_refusedItem_X6_refusedItem rfl rfl rfl (by decide +kernel) ⟨Nat.le_of_ble_eq_true rfl, Nat.le_of_ble_eq_true rfl⟩) (nt_pVn hT hS (fun _ h => Or.inl h) hP (va_recv hK.1 hP.1 (ci := 8) (q0 := 0) rfl rfl)) rfl rfl hl.1 rfl (lv_room (Nat.le_of_ble_eq_true rfl)) dL_refusedItem_3 ⟨Nat.le_of_ble_eq_true rfl, Nat.le_of_ble_eq_true rfl⟩) hS (fun _ h => Or.inl h) (fun E ce q9 H1 locs1 h0 hE hP1 hK1 hS1 hcell hv9 hcl => ?_) (fun H1 locs1 h0 hP1 hK1 hS1 => ?_)
  · have ht := nv_th1 (t := (if ra = -1 then 1 else 0)) h0 (by (repeat' split) <;> decide)
    rw [ht] at hE
    have hE : E = "java/util/NoSuchElementException" := hE
    subst hE
    refine vx_catch (own := RL) (name := "java/util/NoSuchElementException") hown (tableOf []) ⟨0, 8, 11, 83⟩ (tableOf []) (by rw [htb]; rfl) (fun z hz => nomatch hz) (by decide) (by decide) (hts _ (List.mem_of_getElem? (i := 1) rfl)) (va_Nw.use rfl (hT.2.2.2.2.2.1 _ (by decide +kernel))) hcell hv9 hcl ?_
    refine lv_astore_n (lv' := [(2, .ref q9), (0, .ref (AD 0)), (1, .ref o)]) hx hb dL_refusedItem_11 rfl hl (by decide) rfl (fun ls hl => ?_)
    refine lv_iconst (v := nI 1) hx hb dL_refusedItem_12 (by decide) ?_
    exact nv_retL hq hx hb hr hlocks (Nat.le_of_ble_eq_true rfl) (Nat.le_of_ble_eq_true rfl) (by rw [ht]) hS1 ⟨hP1, (hO.kept hK1 ho).imp (fun _ _ z => absurd z h0)⟩ dL_refusedItem_13
  · have hO1 := hO.kept hK1 ho
    generalize H1 = H at hP1 hK1 hS1 hO1 ⊢
    refine lv_i2l hx hb dL_refusedItem_6 rfl ?_
    refine nv_lastO hx hb hX.1 0 rfl hO1 hS1 (Or.inr rfl) dL_refusedItem_7 (fun H2 locs2 hO2 hK2 hS2 => ?_)
    refine lv_goto (tgt := 14) hx hb dL_refusedItem_8 (by decide) ?_
    refine lv_iconst (v := nI 0) hx hb dL_refusedItem_14 (by decide) ?_
    exact nv_retL hq hx hb hr hlocks (Nat.le_of_ble_eq_true rfl) (Nat.le_of_ble_eq_true rfl) (by rw [h0]) hS2 ⟨cOn_W.out ho hK2 hP1, hO2.imp (fun _ z _ => z)⟩ dL_refusedItem_15

set_option maxHeartbeats 1000000 in
set_option maxRecDepth 100000 in
theorem c_L_undo (l : Launch) (hl9 : l.stackTraces = false) {D : va_G} {cI cC cD cR : ClassId} {sa : sA} {AD : Nat → Nat} {cL cB : ClassId} {o : Nat} (ho : ¬ cRg AD 0 165 o) {G Sv Hi In Le : Nat → Nat} {b hs ch ty wy ln : Nat} {ea ra wd : Int32} (hG : gWf b G) (hI : cInj AD) (hch : ch ≤ 8) (hHw : ∀ j, j < ch → hAt Hi j 0 ≤ 8 ∧ hAt Hi j 1 ≤ 6 ∧ hAt Hi j 2 ≤ 5) : vx_Met l yL_undo wsL_undo ({ frames := 7, cells := 1, slots := 6, locals := 110 }) (va_Pc [.ref (AD 0), .ref o] (lPre D [(cI, .int), (cC, .char), (cD, .object "DoorDialect$Door"), (cR, .object "DoorDialect$House")] nN sa (lA AD o) cL cB (fun H => (cW D cI cC cD cR AD G Sv Hi In Le hs ch ty wy ln ea ra wd) H ∧ outL D cL o (fun _ => True) H))) (gQ (nI (if ch = 0 then 1 else 0)) (fun H => (cW D cI cC cD cR AD ((if ch = 0 then G else hAt Hi (ch - 1))) Sv Hi In Le hs (ch - 1) ty wy ln ea ra wd) H ∧ outL D cL o (fun w9 => (if ch = 0 then 1 else 0) = 0 → w9 = ((nI (ch - 1))).toInt64) H) (lA AD o)) noX 1 6 (lA AD o) := by
  refine nv_metH (cc := cL_undo) (maxL := 3) (ret := (some .int)) (hh := [(0, 8, 11, 108)]) (by decide) rfl (Nat.le_of_ble_eq_true rfl) ?_
  intro p0 e0 s m0 args below meth c0 Q hq hargs hnA htb hpre ls hl
  obtain ⟨hx, hb, hr, hts, hown, hlocks, hml⟩ := hnA
  obtain ⟨⟨hP, hO⟩, hT, hX⟩ := hpre
  have hK := hT.1
  have hown : s.vm.findClass RL = some m0.cls := hown
  have hl : lv_has ls 3 [(0, .ref (AD 0)), (1, .ref o)] := hl
  have hS : va_S (lA AD o) s.heap s.heap [] := va_S.rf
  refine lv_aload_n hx hb dL_undo_0 rfl (lv_at hl 1 rfl) ?_
  refine lv_iconst (v := nI 0) hx hb dL_undo_1 (by decide) ?_
  refine lv_aload_n hx hb dL_undo_2 rfl (lv_at hl 0 rfl) ?_
  refine nv_kLX (vx_runV (As := []) (rest := [.int (nI 0), .ref o]) ⟨hx, hb, hml, hown, hts⟩ (c_X6_undo l hl9 (A := cRg AD 0 165) hG hI cRg_self hch hHw) (cwV 0 hts gL_undo_X6_undo rfl rfl rfl (by decide +kernel) ⟨Nat.le_of_ble_eq_true rfl, Nat.le_of_ble_eq_true rfl⟩) (nt_pVn hT hS (fun _ h => Or.inl h) hP (va_recv hK.1 hP.1 (ci := 8) (q0 := 0) rfl rfl)) rfl rfl hl.1 rfl (lv_room (Nat.le_of_ble_eq_true rfl)) dL_undo_3 ⟨Nat.le_of_ble_eq_true rfl, Nat.le_of_ble_eq_true rfl⟩) hS (fun _ h => Or.inl h) (fun E ce q9 H1 locs1 h0 hE hP1 hK1 hS1 hcell hv9 hcl => ?_) (fun H1 locs1 h0 hP1 hK1 hS1 => ?_)
  · have ht := nv_th1 (t := (if ch = 0 then 1 else 0)) h0 (by (repeat' split) <;> decide)
    rw [ht] at hE
    have hE : E = "java/lang/IllegalStateException" := hE
    subst hE
    refine vx_catch (own := RL) (name := "java/lang/IllegalStateException") hown (tableOf []) ⟨0, 8, 11, 108⟩ (tableOf []) (by rw [htb]; rfl) (fun z hz => nomatch hz) (by decide) (by decide) (hts _ (List.mem_of_getElem? (i := 1) rfl)) (va_Nw.use rfl (hT.2.2.2.2.2.1 _ (by decide +kernel))) hcell hv9 hcl ?_
    refine lv_astore_n (lv' := [(2, .ref q9), (0, .ref (AD 0)), (1, .ref o)]) hx hb dL_undo_11 rfl hl (by decide) rfl (fun ls hl => ?_)
    refine lv_iconst (v := nI 1) hx hb dL_undo_12 (by decide) ?_
    exact nv_retL hq hx hb hr hlocks (Nat.le_of_ble_eq_true rfl) (Nat.le_of_ble_eq_true rfl) (by rw [ht]) hS1 ⟨hP1, (hO.kept hK1 ho).imp (fun _ _ z => absurd z h0)⟩ dL_undo_13
  · have hO1 := hO.kept hK1 ho
    generalize H1 = H at hP1 hK1 hS1 hO1 ⊢
    refine lv_i2l hx hb dL_undo_6 rfl ?_
    refine nv_lastO hx hb hX.1 0 rfl hO1 hS1 (Or.inr rfl) dL_undo_7 (fun H2 locs2 hO2 hK2 hS2 => ?_)
    refine lv_goto (tgt := 14) hx hb dL_undo_8 (by decide) ?_
    refine lv_iconst (v := nI 0) hx hb dL_undo_14 (by decide) ?_
    exact nv_retL hq hx hb hr hlocks (Nat.le_of_ble_eq_true rfl) (Nat.le_of_ble_eq_true rfl) (by rw [h0]) hS2 ⟨cOn_W.out ho hK2 hP1, hO2.imp (fun _ z _ => z)⟩ dL_undo_15

set_option maxHeartbeats 1000000 in
set_option maxRecDepth 100000 in
theorem c_L_restore (l : Launch) (hl9 : l.stackTraces = false) {D : va_G} {cI cC cD cR : ClassId} {sa : sA} {AD : Nat → Nat} {cL cB : ClassId} {o : Nat} (ho : ¬ cRg AD 0 165 o) {G Sv Hi In Le : Nat → Nat} {b hs ch ty wy ln : Nat} {ea ra wd : Int32} (hG : gWf b G) (hI : cInj AD) (hhs : hs ≤ 1) (hSw : hs = 1 → Sv 0 ≤ 8 ∧ Sv 1 ≤ 6 ∧ Sv 2 ≤ 5) : vx_Met l yL_restore wsL_restore ({ frames := 7, cells := 1, slots := 6, locals := 110 }) (va_Pc [.ref (AD 0), .ref o] (lPre D [(cI, .int), (cC, .char), (cD, .object "DoorDialect$Door"), (cR, .object "DoorDialect$House")] nN sa (lA AD o) cL cB (fun H => (cW D cI cC cD cR AD G Sv Hi In Le hs ch ty wy ln ea ra wd) H ∧ outL D cL o (fun _ => True) H))) (gQ (nI (if hs = 0 then 1 else 0)) (fun H => (cW D cI cC cD cR AD ((if hs = 0 then G else Sv)) Sv Hi In Le hs ((if hs = 0 then ch else 0)) ty wy ln ea ra wd) H ∧ outL D cL o (fun w9 => (if hs = 0 then 1 else 0) = 0 → w9 = ((nI (if hs = 0 then 0 else Sv 0))).toInt64) H) (lA AD o)) noX 1 6 (lA AD o) := by
  refine nv_metH (cc := cL_restore) (maxL := 3) (ret := (some .int)) (hh := [(0, 8, 11, 108)]) (by decide) rfl (Nat.le_of_ble_eq_true rfl) ?_
  intro p0 e0 s m0 args below meth c0 Q hq hargs hnA htb hpre ls hl
  obtain ⟨hx, hb, hr, hts, hown, hlocks, hml⟩ := hnA
  obtain ⟨⟨hP, hO⟩, hT, hX⟩ := hpre
  have hK := hT.1
  have hown : s.vm.findClass RL = some m0.cls := hown
  have hl : lv_has ls 3 [(0, .ref (AD 0)), (1, .ref o)] := hl
  have hS : va_S (lA AD o) s.heap s.heap [] := va_S.rf
  refine lv_aload_n hx hb dL_restore_0 rfl (lv_at hl 1 rfl) ?_
  refine lv_iconst (v := nI 0) hx hb dL_restore_1 (by decide) ?_
  refine lv_aload_n hx hb dL_restore_2 rfl (lv_at hl 0 rfl) ?_
  refine nv_kLX (vx_runV (As := []) (rest := [.int (nI 0), .ref o]) ⟨hx, hb, hml, hown, hts⟩ (c_X6_restore l hl9 (A := cRg AD 0 165) hG hI cRg_self hhs hSw) (cwV 0 hts gL_restore_X6_restore rfl rfl rfl (by decide +kernel) ⟨Nat.le_of_ble_eq_true rfl, Nat.le_of_ble_eq_true rfl⟩) (nt_pVn hT hS (fun _ h => Or.inl h) hP (va_recv hK.1 hP.1 (ci := 8) (q0 := 0) rfl rfl)) rfl rfl hl.1 rfl (lv_room (Nat.le_of_ble_eq_true rfl)) dL_restore_3 ⟨Nat.le_of_ble_eq_true rfl, Nat.le_of_ble_eq_true rfl⟩) hS (fun _ h => Or.inl h) (fun E ce q9 H1 locs1 h0 hE hP1 hK1 hS1 hcell hv9 hcl => ?_) (fun H1 locs1 h0 hP1 hK1 hS1 => ?_)
  · have ht := nv_th1 (t := (if hs = 0 then 1 else 0)) h0 (by (repeat' split) <;> decide)
    rw [ht] at hE
    have hE : E = "java/lang/IllegalStateException" := hE
    subst hE
    refine vx_catch (own := RL) (name := "java/lang/IllegalStateException") hown (tableOf []) ⟨0, 8, 11, 108⟩ (tableOf []) (by rw [htb]; rfl) (fun z hz => nomatch hz) (by decide) (by decide) (hts _ (List.mem_of_getElem? (i := 1) rfl)) (va_Nw.use rfl (hT.2.2.2.2.2.1 _ (by decide +kernel))) hcell hv9 hcl ?_
    refine lv_astore_n (lv' := [(2, .ref q9), (0, .ref (AD 0)), (1, .ref o)]) hx hb dL_restore_11 rfl hl (by decide) rfl (fun ls hl => ?_)
    refine lv_iconst (v := nI 1) hx hb dL_restore_12 (by decide) ?_
    exact nv_retL hq hx hb hr hlocks (Nat.le_of_ble_eq_true rfl) (Nat.le_of_ble_eq_true rfl) (by rw [ht]) hS1 ⟨hP1, (hO.kept hK1 ho).imp (fun _ _ z => absurd z h0)⟩ dL_restore_13
  · have hO1 := hO.kept hK1 ho
    generalize H1 = H at hP1 hK1 hS1 hO1 ⊢
    refine lv_i2l hx hb dL_restore_6 rfl ?_
    refine nv_lastO hx hb hX.1 0 rfl hO1 hS1 (Or.inr rfl) dL_restore_7 (fun H2 locs2 hO2 hK2 hS2 => ?_)
    refine lv_goto (tgt := 14) hx hb dL_restore_8 (by decide) ?_
    refine lv_iconst (v := nI 0) hx hb dL_restore_14 (by decide) ?_
    exact nv_retL hq hx hb hr hlocks (Nat.le_of_ble_eq_true rfl) (Nat.le_of_ble_eq_true rfl) (by rw [h0]) hS2 ⟨cOn_W.out ho hK2 hP1, hO2.imp (fun _ z _ => z)⟩ dL_restore_15
