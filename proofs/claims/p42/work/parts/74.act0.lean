set_option maxHeartbeats 1000000 in
set_option maxRecDepth 100000 in
theorem c_L_act_door (l : Launch) (hl9 : l.stackTraces = false) {D : va_G} {cI cC cD cR cB : ClassId} {sa : sA} {AD : Nat → Nat} {G Sv Hi In Le : Nat → Nat} {hs ch ty wy ln k : Nat} {ea ra wd : Int32} (hI : cInj AD) (hF : lF k G Sv Hi In Le hs ch ty wy ln) (hk : k < 512) (a b c d x : Int32) : vx_Met l yL_act wsM_act ({ frames := 8, cells := 1, slots := 6, locals := 157 }) (va_Pc [.ref (AD 0), .int (nI 0), .int a, .int b, .int c, .int d, .int x] (lPre D [(cI, .int), (cC, .char), (cD, .object "DoorDialect$Door"), (cR, .object "DoorDialect$House")] nN sa (cRg AD 0 165) cB (cW D cI cC cD cR AD G Sv Hi In Le hs ch ty wy ln ea ra wd) [])) (gQ (aR (vDoor G a b (bI (c = nI 1)) d x) 3) (cWv D cI cC cD cR AD G Sv Hi In Le hs ch ty wy ln ea ra wd (vDoor G a b (bI (c = nI 1)) d x)) (cRg AD 0 165)) noX 1 6 (cRg AD 0 165) := by
  refine nv_metH (cc := cL_act) (maxL := 8) (ret := (some .int)) (hh := [(0, 69, 150, 75), (70, 75, 150, 75), (76, 82, 150, 75), (83, 89, 150, 75), (90, 109, 150, 75), (110, 116, 150, 75), (117, 136, 150, 75), (137, 142, 150, 75), (143, 149, 150, 75), (0, 69, 155, 77), (70, 75, 155, 77), (76, 82, 155, 77), (83, 89, 155, 77), (90, 109, 155, 77), (110, 116, 155, 77), (117, 136, 155, 77), (137, 142, 155, 77), (143, 149, 155, 77), (0, 69, 160, 79), (70, 75, 160, 79), (76, 82, 160, 79), (83, 89, 160, 79), (90, 109, 160, 79), (110, 116, 160, 79), (117, 136, 160, 79), (137, 142, 160, 79), (143, 149, 160, 79)]) (by decide) rfl (Nat.le_of_ble_eq_true rfl) ?_
  intro p0 e0 s m0 args below meth c0 Q hq hargs hnA htb hpre ls hl
  obtain ⟨hx, hb, hr, hts, hown, hlocks, hml⟩ := hnA
  obtain ⟨hP, hT, hX, -⟩ := hpre
  have hown : s.vm.findClass RL = some m0.cls := hown
  have hl : lv_has ls 8 [(0, .ref (AD 0)), (1, .int (nI 0)), (2, .int a), (3, .int b), (4, .int c), (5, .int d), (6, .int x)] := hl
  have hS : va_S (cRg AD 0 165) s.heap s.heap [] := va_S.rf
  obtain ⟨bb, hG, h25, hbk, hk5, hch, hHb, hhs, hSvb, hty, hIn7, hln, hLe, hwy⟩ := id hF
  have hHw : ∀ j, j < ch → hAt Hi j 0 ≤ 8 ∧ hAt Hi j 1 ≤ 6 ∧ hAt Hi j 2 ≤ 5 := fun j hj => ⟨(hHb j hj).2.2.1, (hHb j hj).2.2.2.1, (hHb j hj).2.2.2.2.1⟩
  have hbb : bb + 1 < 2 ^ 20 := by omega
  have hb32 : bb + 32 < 2 ^ 20 := by omega
  refine lv_iload_n hx hb dL_act_0 rfl (lv_at hl 1 rfl) ?_
  refine lv_tableIn (off := 47) (tgt := 48) hx hb dL_act_1 (by decide) (by decide) (by decide +kernel) (by decide) ?_
  refine lv_aload_n hx hb dL_act_48 rfl (lv_at hl 0 rfl) ?_
  refine lv_iload_n hx hb dL_act_49 rfl (lv_at hl 2 rfl) ?_
  refine lv_iload_n hx hb dL_act_50 rfl (lv_at hl 3 rfl) ?_
  refine lv_iload hx hb dL_act_51 (lv_at hl 4 rfl) ?_
  refine lv_iconst (v := nI 1) hx hb dL_act_53 (by decide) ?_
  refine nv_eq1 hx hb dL_act_54 dL_act_57 dL_act_58 dL_act_61 ?_
  refine lv_iload hx hb dL_act_62 (lv_at hl 5 rfl) ?_
  refine lv_iload hx hb dL_act_64 (lv_at hl 6 rfl) ?_
  refine nv_kLX (vx_runV (As := [.int a, .int b, .int (nI (bI (c = nI 1))), .int d, .int x]) (rest := []) ⟨hx, hb, hml, hown, hts⟩ (c_X6_door l hl9 (A := cRg AD 0 165) hG hI cRg_self hch hHw h25 hbb a b (bI (c = nI 1)) d x (bI_le _)) (cwV 5 hts (goodIn_m gL_act_X6_door wsM_a) rfl rfl rfl (by decide +kernel) ⟨Nat.le_of_ble_eq_true rfl, Nat.le_of_ble_eq_true rfl⟩) (nt_pVn hT hS (fun _ h => h) hP (va_recv hT.1.1 hP.1 (ci := 8) (q0 := 0) rfl rfl)) rfl rfl hl.1 rfl (lv_room (Nat.le_of_ble_eq_true rfl)) dL_act_66 ⟨Nat.le_of_ble_eq_true rfl, Nat.le_of_ble_eq_true rfl⟩) hS (fun _ h => h) (fun E ce q9 H1 locs1 h0 hE hP1 hK1 hS1 hcell hv9 hcl => ?_) (fun H1 locs1 h0 hP1 hK1 hS1 => ?_)
  · rcases nv_th3 (t := (vDoor G a b (bI (c = nI 1)) d x).1) h0 (vDoor_n _ _ _ _ _ _) with ht | ht | ht
    · rw [ht] at hE
      have hE : E = "java/lang/IllegalArgumentException" := hE
      subst hE
      refine vx_catch (own := RL) (name := "java/lang/IllegalArgumentException") hown (tableOf [(0, 69, 150, 75), (70, 75, 150, 75), (76, 82, 150, 75), (83, 89, 150, 75), (90, 109, 150, 75), (110, 116, 150, 75), (117, 136, 150, 75), (137, 142, 150, 75), (143, 149, 150, 75)]) ⟨0, 69, 155, 77⟩ (tableOf [(70, 75, 155, 77), (76, 82, 155, 77), (83, 89, 155, 77), (90, 109, 155, 77), (110, 116, 155, 77), (117, 136, 155, 77), (137, 142, 155, 77), (143, 149, 155, 77), (0, 69, 160, 79), (70, 75, 160, 79), (76, 82, 160, 79), (83, 89, 160, 79), (90, 109, 160, 79), (110, 116, 160, 79), (117, 136, 160, 79), (137, 142, 160, 79), (143, 149, 160, 79)]) (by rw [htb]; rfl) (ps_cl (by decide) (by decide) (hts (.classLink RL 75 "java/lang/UnsupportedOperationException") (by decide +kernel)) (hX.2.1 _ (by decide) _ (by decide) (by decide))) (by decide) (by decide) (hts (.classLink RL 77 "java/lang/IllegalArgumentException") (by decide +kernel)) (va_Nw.use rfl (hT.2.2.2.2.2.1 _ (by decide +kernel))) hcell hv9 hcl ?_
      refine lv_astore (lv' := [(7, .ref q9), (0, .ref (AD 0)), (1, .int (nI 0)), (2, .int a), (3, .int b), (4, .int c), (5, .int d), (6, .int x)]) hx hb dL_act_155 hl (by decide) rfl (fun ls hl => ?_)
      refine lv_bipush (v := (-3)) hx hb dL_act_157 (by decide) ?_
      exact nv_retL hq hx hb hr hlocks (Nat.le_of_ble_eq_true rfl) (Nat.le_of_ble_eq_true rfl) (by unfold aR; rw [if_neg h0, if_neg (by rw [ht]; decide)]) hS1 hP1 dL_act_159
    · rw [ht] at hE
      have hE : E = "java/lang/IndexOutOfBoundsException" := hE
      subst hE
      refine vx_catch (own := RL) (name := "java/lang/IndexOutOfBoundsException") hown (tableOf [(0, 69, 150, 75), (70, 75, 150, 75), (76, 82, 150, 75), (83, 89, 150, 75), (90, 109, 150, 75), (110, 116, 150, 75), (117, 136, 150, 75), (137, 142, 150, 75), (143, 149, 150, 75)] ++ tableOf [(0, 69, 155, 77), (70, 75, 155, 77), (76, 82, 155, 77), (83, 89, 155, 77), (90, 109, 155, 77), (110, 116, 155, 77), (117, 136, 155, 77), (137, 142, 155, 77), (143, 149, 155, 77)]) ⟨0, 69, 160, 79⟩ (tableOf [(70, 75, 160, 79), (76, 82, 160, 79), (83, 89, 160, 79), (90, 109, 160, 79), (110, 116, 160, 79), (117, 136, 160, 79), (137, 142, 160, 79), (143, 149, 160, 79)]) (by rw [htb]; rfl) (ps_app (ps_cl (by decide) (by decide) (hts (.classLink RL 75 "java/lang/UnsupportedOperationException") (by decide +kernel)) (hX.2.1 _ (by decide) _ (by decide) (by decide))) (ps_cl (by decide) (by decide) (hts (.classLink RL 77 "java/lang/IllegalArgumentException") (by decide +kernel)) (hX.2.1 _ (by decide) _ (by decide) (by decide)))) (by decide) (by decide) (hts (.classLink RL 79 "java/lang/IndexOutOfBoundsException") (by decide +kernel)) (va_Nw.use rfl (hT.2.2.2.2.2.1 _ (by decide +kernel))) hcell hv9 hcl ?_
      refine lv_astore (lv' := [(7, .ref q9), (0, .ref (AD 0)), (1, .int (nI 0)), (2, .int a), (3, .int b), (4, .int c), (5, .int d), (6, .int x)]) hx hb dL_act_160 hl (by decide) rfl (fun ls hl => ?_)
      refine lv_bipush (v := (-3)) hx hb dL_act_162 (by decide) ?_
      exact nv_retL hq hx hb hr hlocks (Nat.le_of_ble_eq_true rfl) (Nat.le_of_ble_eq_true rfl) (by unfold aR; rw [if_neg h0, if_neg (by rw [ht]; decide)]) hS1 hP1 dL_act_164
    · rw [ht] at hE
      have hE : E = "java/lang/UnsupportedOperationException" := hE
      subst hE
      refine vx_catch (own := RL) (name := "java/lang/UnsupportedOperationException") hown (tableOf []) ⟨0, 69, 150, 75⟩ (tableOf [(70, 75, 150, 75), (76, 82, 150, 75), (83, 89, 150, 75), (90, 109, 150, 75), (110, 116, 150, 75), (117, 136, 150, 75), (137, 142, 150, 75), (143, 149, 150, 75), (0, 69, 155, 77), (70, 75, 155, 77), (76, 82, 155, 77), (83, 89, 155, 77), (90, 109, 155, 77), (110, 116, 155, 77), (117, 136, 155, 77), (137, 142, 155, 77), (143, 149, 155, 77), (0, 69, 160, 79), (70, 75, 160, 79), (76, 82, 160, 79), (83, 89, 160, 79), (90, 109, 160, 79), (110, 116, 160, 79), (117, 136, 160, 79), (137, 142, 160, 79), (143, 149, 160, 79)]) (by rw [htb]; rfl) (fun z hz => nomatch hz) (by decide) (by decide) (hts (.classLink RL 75 "java/lang/UnsupportedOperationException") (by decide +kernel)) (va_Nw.use rfl (hT.2.2.2.2.2.1 _ (by decide +kernel))) hcell hv9 hcl ?_
      refine lv_astore (lv' := [(7, .ref q9), (0, .ref (AD 0)), (1, .int (nI 0)), (2, .int a), (3, .int b), (4, .int c), (5, .int d), (6, .int x)]) hx hb dL_act_150 hl (by decide) rfl (fun ls hl => ?_)
      refine lv_bipush (v := (-2)) hx hb dL_act_152 (by decide) ?_
      exact nv_retL hq hx hb hr hlocks (Nat.le_of_ble_eq_true rfl) (Nat.le_of_ble_eq_true rfl) (by unfold aR; rw [if_neg h0, if_pos ht]) hS1 hP1 dL_act_154
  exact nv_retL hq hx hb hr hlocks (Nat.le_of_ble_eq_true rfl) (Nat.le_of_ble_eq_true rfl) (by unfold aR; rw [if_pos h0]) hS1 hP1 dL_act_69
set_option maxHeartbeats 1000000 in
set_option maxRecDepth 100000 in
theorem c_L_act_threshold (l : Launch) (hl9 : l.stackTraces = false) {D : va_G} {cI cC cD cR cB : ClassId} {sa : sA} {AD : Nat → Nat} {G Sv Hi In Le : Nat → Nat} {hs ch ty wy ln k : Nat} {ea ra wd : Int32} (hI : cInj AD) (hF : lF k G Sv Hi In Le hs ch ty wy ln) (hk : k < 512) (a b c d x : Int32) : vx_Met l yL_act wsM_act ({ frames := 8, cells := 1, slots := 6, locals := 153 }) (va_Pc [.ref (AD 0), .int (nI 1), .int a, .int b, .int c, .int d, .int x] (lPre D [(cI, .int), (cC, .char), (cD, .object "DoorDialect$Door"), (cR, .object "DoorDialect$House")] nN sa (cRg AD 0 165) cB (cW D cI cC cD cR AD G Sv Hi In Le hs ch ty wy ln ea ra wd) [])) (gQ (aR (vSill G a) 2) (cWv D cI cC cD cR AD G Sv Hi In Le hs ch ty wy ln ea ra wd (vSill G a)) (cRg AD 0 165)) noX 1 6 (cRg AD 0 165) := by
  refine nv_metH (cc := cL_act) (maxL := 8) (ret := (some .int)) (hh := [(0, 69, 150, 75), (70, 75, 150, 75), (76, 82, 150, 75), (83, 89, 150, 75), (90, 109, 150, 75), (110, 116, 150, 75), (117, 136, 150, 75), (137, 142, 150, 75), (143, 149, 150, 75), (0, 69, 155, 77), (70, 75, 155, 77), (76, 82, 155, 77), (83, 89, 155, 77), (90, 109, 155, 77), (110, 116, 155, 77), (117, 136, 155, 77), (137, 142, 155, 77), (143, 149, 155, 77), (0, 69, 160, 79), (70, 75, 160, 79), (76, 82, 160, 79), (83, 89, 160, 79), (90, 109, 160, 79), (110, 116, 160, 79), (117, 136, 160, 79), (137, 142, 160, 79), (143, 149, 160, 79)]) (by decide) rfl (Nat.le_of_ble_eq_true rfl) ?_
  intro p0 e0 s m0 args below meth c0 Q hq hargs hnA htb hpre ls hl
  obtain ⟨hx, hb, hr, hts, hown, hlocks, hml⟩ := hnA
  obtain ⟨hP, hT, hX, -⟩ := hpre
  have hown : s.vm.findClass RL = some m0.cls := hown
  have hl : lv_has ls 8 [(0, .ref (AD 0)), (1, .int (nI 1)), (2, .int a), (3, .int b), (4, .int c), (5, .int d), (6, .int x)] := hl
  have hS : va_S (cRg AD 0 165) s.heap s.heap [] := va_S.rf
  obtain ⟨bb, hG, h25, hbk, hk5, hch, hHb, hhs, hSvb, hty, hIn7, hln, hLe, hwy⟩ := id hF
  have hHw : ∀ j, j < ch → hAt Hi j 0 ≤ 8 ∧ hAt Hi j 1 ≤ 6 ∧ hAt Hi j 2 ≤ 5 := fun j hj => ⟨(hHb j hj).2.2.1, (hHb j hj).2.2.2.1, (hHb j hj).2.2.2.2.1⟩
  have hbb : bb + 1 < 2 ^ 20 := by omega
  have hb32 : bb + 32 < 2 ^ 20 := by omega
  refine lv_iload_n hx hb dL_act_0 rfl (lv_at hl 1 rfl) ?_
  refine lv_tableIn (off := 69) (tgt := 70) hx hb dL_act_1 (by decide) (by decide) (by decide +kernel) (by decide) ?_
  refine lv_aload_n hx hb dL_act_70 rfl (lv_at hl 0 rfl) ?_
  refine lv_iload_n hx hb dL_act_71 rfl (lv_at hl 2 rfl) ?_
  refine nv_kLX (vx_runV (As := [.int a]) (rest := []) ⟨hx, hb, hml, hown, hts⟩ (c_X6_threshold l hl9 (A := cRg AD 0 165) hG hI cRg_self hch hHw h25 hbb a) (cwV 1 hts (goodIn_m gL_act_X6_threshold wsM_a) rfl rfl rfl (by decide +kernel) ⟨Nat.le_of_ble_eq_true rfl, Nat.le_of_ble_eq_true rfl⟩) (nt_pVn hT hS (fun _ h => h) hP (va_recv hT.1.1 hP.1 (ci := 8) (q0 := 0) rfl rfl)) rfl rfl hl.1 rfl (lv_room (Nat.le_of_ble_eq_true rfl)) dL_act_72 ⟨Nat.le_of_ble_eq_true rfl, Nat.le_of_ble_eq_true rfl⟩) hS (fun _ h => h) (fun E ce q9 H1 locs1 h0 hE hP1 hK1 hS1 hcell hv9 hcl => ?_) (fun H1 locs1 h0 hP1 hK1 hS1 => ?_)
  · rcases nv_th2 (t := (vSill G a).1) h0 (vSill_n2 _ _) with ht | ht
    · rw [ht] at hE
      have hE : E = "java/lang/IllegalArgumentException" := hE
      subst hE
      refine vx_catch (own := RL) (name := "java/lang/IllegalArgumentException") hown (tableOf [(0, 69, 150, 75), (70, 75, 150, 75), (76, 82, 150, 75), (83, 89, 150, 75), (90, 109, 150, 75), (110, 116, 150, 75), (117, 136, 150, 75), (137, 142, 150, 75), (143, 149, 150, 75)] ++ tableOf [(0, 69, 155, 77)]) ⟨70, 75, 155, 77⟩ (tableOf [(76, 82, 155, 77), (83, 89, 155, 77), (90, 109, 155, 77), (110, 116, 155, 77), (117, 136, 155, 77), (137, 142, 155, 77), (143, 149, 155, 77), (0, 69, 160, 79), (70, 75, 160, 79), (76, 82, 160, 79), (83, 89, 160, 79), (90, 109, 160, 79), (110, 116, 160, 79), (117, 136, 160, 79), (137, 142, 160, 79), (143, 149, 160, 79)]) (by rw [htb]; rfl) (ps_app (ps_cl (by decide) (by decide) (hts (.classLink RL 75 "java/lang/UnsupportedOperationException") (by decide +kernel)) (hX.2.1 _ (by decide) _ (by decide) (by decide))) (ps_no (by decide))) (by decide) (by decide) (hts (.classLink RL 77 "java/lang/IllegalArgumentException") (by decide +kernel)) (va_Nw.use rfl (hT.2.2.2.2.2.1 _ (by decide +kernel))) hcell hv9 hcl ?_
      refine lv_astore (lv' := [(7, .ref q9), (0, .ref (AD 0)), (1, .int (nI 1)), (2, .int a), (3, .int b), (4, .int c), (5, .int d), (6, .int x)]) hx hb dL_act_155 hl (by decide) rfl (fun ls hl => ?_)
      refine lv_bipush (v := (-3)) hx hb dL_act_157 (by decide) ?_
      exact nv_retL hq hx hb hr hlocks (Nat.le_of_ble_eq_true rfl) (Nat.le_of_ble_eq_true rfl) (by unfold aR; rw [if_neg h0, if_neg (by rw [ht]; decide)]) hS1 hP1 dL_act_159
    · rw [ht] at hE
      have hE : E = "java/lang/UnsupportedOperationException" := hE
      subst hE
      refine vx_catch (own := RL) (name := "java/lang/UnsupportedOperationException") hown (tableOf [(0, 69, 150, 75)]) ⟨70, 75, 150, 75⟩ (tableOf [(76, 82, 150, 75), (83, 89, 150, 75), (90, 109, 150, 75), (110, 116, 150, 75), (117, 136, 150, 75), (137, 142, 150, 75), (143, 149, 150, 75), (0, 69, 155, 77), (70, 75, 155, 77), (76, 82, 155, 77), (83, 89, 155, 77), (90, 109, 155, 77), (110, 116, 155, 77), (117, 136, 155, 77), (137, 142, 155, 77), (143, 149, 155, 77), (0, 69, 160, 79), (70, 75, 160, 79), (76, 82, 160, 79), (83, 89, 160, 79), (90, 109, 160, 79), (110, 116, 160, 79), (117, 136, 160, 79), (137, 142, 160, 79), (143, 149, 160, 79)]) (by rw [htb]; rfl) (ps_no (by decide)) (by decide) (by decide) (hts (.classLink RL 75 "java/lang/UnsupportedOperationException") (by decide +kernel)) (va_Nw.use rfl (hT.2.2.2.2.2.1 _ (by decide +kernel))) hcell hv9 hcl ?_
      refine lv_astore (lv' := [(7, .ref q9), (0, .ref (AD 0)), (1, .int (nI 1)), (2, .int a), (3, .int b), (4, .int c), (5, .int d), (6, .int x)]) hx hb dL_act_150 hl (by decide) rfl (fun ls hl => ?_)
      refine lv_bipush (v := (-2)) hx hb dL_act_152 (by decide) ?_
      exact nv_retL hq hx hb hr hlocks (Nat.le_of_ble_eq_true rfl) (Nat.le_of_ble_eq_true rfl) (by unfold aR; rw [if_neg h0, if_pos ht]) hS1 hP1 dL_act_154
  exact nv_retL hq hx hb hr hlocks (Nat.le_of_ble_eq_true rfl) (Nat.le_of_ble_eq_true rfl) (by unfold aR; rw [if_pos h0]) hS1 hP1 dL_act_75
set_option maxHeartbeats 1000000 in
set_option maxRecDepth 100000 in
theorem c_L_act_govern (l : Launch) (hl9 : l.stackTraces = false) {D : va_G} {cI cC cD cR cB : ClassId} {sa : sA} {AD : Nat → Nat} {G Sv Hi In Le : Nat → Nat} {hs ch ty wy ln k : Nat} {ea ra wd : Int32} (hI : cInj AD) (hF : lF k G Sv Hi In Le hs ch ty wy ln) (hk : k < 512) (a b c d x : Int32) : vx_Met l yL_act wsM_act ({ frames := 8, cells := 1, slots := 6, locals := 154 }) (va_Pc [.ref (AD 0), .int (nI 2), .int a, .int b, .int c, .int d, .int x] (lPre D [(cI, .int), (cC, .char), (cD, .object "DoorDialect$Door"), (cR, .object "DoorDialect$House")] nN sa (cRg AD 0 165) cB (cW D cI cC cD cR AD G Sv Hi In Le hs ch ty wy ln ea ra wd) [])) (gQ (aR (vGovern G a b) 3) (cWv D cI cC cD cR AD G Sv Hi In Le hs ch ty wy ln ea ra wd (vGovern G a b)) (cRg AD 0 165)) noX 1 6 (cRg AD 0 165) := by
  refine nv_metH (cc := cL_act) (maxL := 8) (ret := (some .int)) (hh := [(0, 69, 150, 75), (70, 75, 150, 75), (76, 82, 150, 75), (83, 89, 150, 75), (90, 109, 150, 75), (110, 116, 150, 75), (117, 136, 150, 75), (137, 142, 150, 75), (143, 149, 150, 75), (0, 69, 155, 77), (70, 75, 155, 77), (76, 82, 155, 77), (83, 89, 155, 77), (90, 109, 155, 77), (110, 116, 155, 77), (117, 136, 155, 77), (137, 142, 155, 77), (143, 149, 155, 77), (0, 69, 160, 79), (70, 75, 160, 79), (76, 82, 160, 79), (83, 89, 160, 79), (90, 109, 160, 79), (110, 116, 160, 79), (117, 136, 160, 79), (137, 142, 160, 79), (143, 149, 160, 79)]) (by decide) rfl (Nat.le_of_ble_eq_true rfl) ?_
  intro p0 e0 s m0 args below meth c0 Q hq hargs hnA htb hpre ls hl
  obtain ⟨hx, hb, hr, hts, hown, hlocks, hml⟩ := hnA
  obtain ⟨hP, hT, hX, -⟩ := hpre
  have hown : s.vm.findClass RL = some m0.cls := hown
  have hl : lv_has ls 8 [(0, .ref (AD 0)), (1, .int (nI 2)), (2, .int a), (3, .int b), (4, .int c), (5, .int d), (6, .int x)] := hl
  have hS : va_S (cRg AD 0 165) s.heap s.heap [] := va_S.rf
  obtain ⟨bb, hG, h25, hbk, hk5, hch, hHb, hhs, hSvb, hty, hIn7, hln, hLe, hwy⟩ := id hF
  have hHw : ∀ j, j < ch → hAt Hi j 0 ≤ 8 ∧ hAt Hi j 1 ≤ 6 ∧ hAt Hi j 2 ≤ 5 := fun j hj => ⟨(hHb j hj).2.2.1, (hHb j hj).2.2.2.1, (hHb j hj).2.2.2.2.1⟩
  have hbb : bb + 1 < 2 ^ 20 := by omega
  have hb32 : bb + 32 < 2 ^ 20 := by omega
  refine lv_iload_n hx hb dL_act_0 rfl (lv_at hl 1 rfl) ?_
  refine lv_tableIn (off := 75) (tgt := 76) hx hb dL_act_1 (by decide) (by decide) (by decide +kernel) (by decide) ?_
  refine lv_aload_n hx hb dL_act_76 rfl (lv_at hl 0 rfl) ?_
  refine lv_iload_n hx hb dL_act_77 rfl (lv_at hl 2 rfl) ?_
  refine lv_iload_n hx hb dL_act_78 rfl (lv_at hl 3 rfl) ?_
  refine nv_kLX (vx_runV (As := [.int a, .int b]) (rest := []) ⟨hx, hb, hml, hown, hts⟩ (c_X6_govern l hl9 (A := cRg AD 0 165) hG hI cRg_self hch hHw h25 hbb a b) (cwV 2 hts (goodIn_m gL_act_X6_govern wsM_a) rfl rfl rfl (by decide +kernel) ⟨Nat.le_of_ble_eq_true rfl, Nat.le_of_ble_eq_true rfl⟩) (nt_pVn hT hS (fun _ h => h) hP (va_recv hT.1.1 hP.1 (ci := 8) (q0 := 0) rfl rfl)) rfl rfl hl.1 rfl (lv_room (Nat.le_of_ble_eq_true rfl)) dL_act_79 ⟨Nat.le_of_ble_eq_true rfl, Nat.le_of_ble_eq_true rfl⟩) hS (fun _ h => h) (fun E ce q9 H1 locs1 h0 hE hP1 hK1 hS1 hcell hv9 hcl => ?_) (fun H1 locs1 h0 hP1 hK1 hS1 => ?_)
  · rcases nv_th3 (t := (vGovern G a b).1) h0 (vGovern_n _ _ _) with ht | ht | ht
    · rw [ht] at hE
      have hE : E = "java/lang/IndexOutOfBoundsException" := hE
      subst hE
      refine vx_catch (own := RL) (name := "java/lang/IndexOutOfBoundsException") hown (tableOf [(0, 69, 150, 75), (70, 75, 150, 75), (76, 82, 150, 75), (83, 89, 150, 75), (90, 109, 150, 75), (110, 116, 150, 75), (117, 136, 150, 75), (137, 142, 150, 75), (143, 149, 150, 75)] ++ tableOf [(0, 69, 155, 77), (70, 75, 155, 77), (76, 82, 155, 77), (83, 89, 155, 77), (90, 109, 155, 77), (110, 116, 155, 77), (117, 136, 155, 77), (137, 142, 155, 77), (143, 149, 155, 77)] ++ tableOf [(0, 69, 160, 79), (70, 75, 160, 79)]) ⟨76, 82, 160, 79⟩ (tableOf [(83, 89, 160, 79), (90, 109, 160, 79), (110, 116, 160, 79), (117, 136, 160, 79), (137, 142, 160, 79), (143, 149, 160, 79)]) (by rw [htb]; rfl) (ps_app (ps_app (ps_cl (by decide) (by decide) (hts (.classLink RL 75 "java/lang/UnsupportedOperationException") (by decide +kernel)) (hX.2.1 _ (by decide) _ (by decide) (by decide))) (ps_cl (by decide) (by decide) (hts (.classLink RL 77 "java/lang/IllegalArgumentException") (by decide +kernel)) (hX.2.1 _ (by decide) _ (by decide) (by decide)))) (ps_no (by decide))) (by decide) (by decide) (hts (.classLink RL 79 "java/lang/IndexOutOfBoundsException") (by decide +kernel)) (va_Nw.use rfl (hT.2.2.2.2.2.1 _ (by decide +kernel))) hcell hv9 hcl ?_
      refine lv_astore (lv' := [(7, .ref q9), (0, .ref (AD 0)), (1, .int (nI 2)), (2, .int a), (3, .int b), (4, .int c), (5, .int d), (6, .int x)]) hx hb dL_act_160 hl (by decide) rfl (fun ls hl => ?_)
      refine lv_bipush (v := (-3)) hx hb dL_act_162 (by decide) ?_
      exact nv_retL hq hx hb hr hlocks (Nat.le_of_ble_eq_true rfl) (Nat.le_of_ble_eq_true rfl) (by unfold aR; rw [if_neg h0, if_neg (by rw [ht]; decide)]) hS1 hP1 dL_act_164
    · rw [ht] at hE
      have hE : E = "java/lang/IllegalArgumentException" := hE
      subst hE
      refine vx_catch (own := RL) (name := "java/lang/IllegalArgumentException") hown (tableOf [(0, 69, 150, 75), (70, 75, 150, 75), (76, 82, 150, 75), (83, 89, 150, 75), (90, 109, 150, 75), (110, 116, 150, 75), (117, 136, 150, 75), (137, 142, 150, 75), (143, 149, 150, 75)] ++ tableOf [(0, 69, 155, 77), (70, 75, 155, 77)]) ⟨76, 82, 155, 77⟩ (tableOf [(83, 89, 155, 77), (90, 109, 155, 77), (110, 116, 155, 77), (117, 136, 155, 77), (137, 142, 155, 77), (143, 149, 155, 77), (0, 69, 160, 79), (70, 75, 160, 79), (76, 82, 160, 79), (83, 89, 160, 79), (90, 109, 160, 79), (110, 116, 160, 79), (117, 136, 160, 79), (137, 142, 160, 79), (143, 149, 160, 79)]) (by rw [htb]; rfl) (ps_app (ps_cl (by decide) (by decide) (hts (.classLink RL 75 "java/lang/UnsupportedOperationException") (by decide +kernel)) (hX.2.1 _ (by decide) _ (by decide) (by decide))) (ps_no (by decide))) (by decide) (by decide) (hts (.classLink RL 77 "java/lang/IllegalArgumentException") (by decide +kernel)) (va_Nw.use rfl (hT.2.2.2.2.2.1 _ (by decide +kernel))) hcell hv9 hcl ?_
      refine lv_astore (lv' := [(7, .ref q9), (0, .ref (AD 0)), (1, .int (nI 2)), (2, .int a), (3, .int b), (4, .int c), (5, .int d), (6, .int x)]) hx hb dL_act_155 hl (by decide) rfl (fun ls hl => ?_)
      refine lv_bipush (v := (-3)) hx hb dL_act_157 (by decide) ?_
      exact nv_retL hq hx hb hr hlocks (Nat.le_of_ble_eq_true rfl) (Nat.le_of_ble_eq_true rfl) (by unfold aR; rw [if_neg h0, if_neg (by rw [ht]; decide)]) hS1 hP1 dL_act_159
    · rw [ht] at hE
      have hE : E = "java/lang/UnsupportedOperationException" := hE
      subst hE
      refine vx_catch (own := RL) (name := "java/lang/UnsupportedOperationException") hown (tableOf [(0, 69, 150, 75), (70, 75, 150, 75)]) ⟨76, 82, 150, 75⟩ (tableOf [(83, 89, 150, 75), (90, 109, 150, 75), (110, 116, 150, 75), (117, 136, 150, 75), (137, 142, 150, 75), (143, 149, 150, 75), (0, 69, 155, 77), (70, 75, 155, 77), (76, 82, 155, 77), (83, 89, 155, 77), (90, 109, 155, 77), (110, 116, 155, 77), (117, 136, 155, 77), (137, 142, 155, 77), (143, 149, 155, 77), (0, 69, 160, 79), (70, 75, 160, 79), (76, 82, 160, 79), (83, 89, 160, 79), (90, 109, 160, 79), (110, 116, 160, 79), (117, 136, 160, 79), (137, 142, 160, 79), (143, 149, 160, 79)]) (by rw [htb]; rfl) (ps_no (by decide)) (by decide) (by decide) (hts (.classLink RL 75 "java/lang/UnsupportedOperationException") (by decide +kernel)) (va_Nw.use rfl (hT.2.2.2.2.2.1 _ (by decide +kernel))) hcell hv9 hcl ?_
      refine lv_astore (lv' := [(7, .ref q9), (0, .ref (AD 0)), (1, .int (nI 2)), (2, .int a), (3, .int b), (4, .int c), (5, .int d), (6, .int x)]) hx hb dL_act_150 hl (by decide) rfl (fun ls hl => ?_)
      refine lv_bipush (v := (-2)) hx hb dL_act_152 (by decide) ?_
      exact nv_retL hq hx hb hr hlocks (Nat.le_of_ble_eq_true rfl) (Nat.le_of_ble_eq_true rfl) (by unfold aR; rw [if_neg h0, if_pos ht]) hS1 hP1 dL_act_154
  exact nv_retL hq hx hb hr hlocks (Nat.le_of_ble_eq_true rfl) (Nat.le_of_ble_eq_true rfl) (by unfold aR; rw [if_pos h0]) hS1 hP1 dL_act_82
set_option maxHeartbeats 1000000 in
set_option maxRecDepth 100000 in
theorem c_L_act_set (l : Launch) (hl9 : l.stackTraces = false) {D : va_G} {cI cC cD cR cB : ClassId} {sa : sA} {AD : Nat → Nat} {G Sv Hi In Le : Nat → Nat} {hs ch ty wy ln k : Nat} {ea ra wd : Int32} (hI : cInj AD) (hF : lF k G Sv Hi In Le hs ch ty wy ln) (hk : k < 512) (a b c d x : Int32) : vx_Met l yL_act wsM_act ({ frames := 8, cells := 1, slots := 6, locals := 154 }) (va_Pc [.ref (AD 0), .int (nI 3), .int a, .int b, .int c, .int d, .int x] (lPre D [(cI, .int), (cC, .char), (cD, .object "DoorDialect$Door"), (cR, .object "DoorDialect$House")] nN sa (cRg AD 0 165) cB (cW D cI cC cD cR AD G Sv Hi In Le hs ch ty wy ln ea ra wd) [])) (gQ (aR (vSet G a b) 2) (cWv D cI cC cD cR AD G Sv Hi In Le hs ch ty wy ln ea ra wd (vSet G a b)) (cRg AD 0 165)) noX 1 6 (cRg AD 0 165) := by
  refine nv_metH (cc := cL_act) (maxL := 8) (ret := (some .int)) (hh := [(0, 69, 150, 75), (70, 75, 150, 75), (76, 82, 150, 75), (83, 89, 150, 75), (90, 109, 150, 75), (110, 116, 150, 75), (117, 136, 150, 75), (137, 142, 150, 75), (143, 149, 150, 75), (0, 69, 155, 77), (70, 75, 155, 77), (76, 82, 155, 77), (83, 89, 155, 77), (90, 109, 155, 77), (110, 116, 155, 77), (117, 136, 155, 77), (137, 142, 155, 77), (143, 149, 155, 77), (0, 69, 160, 79), (70, 75, 160, 79), (76, 82, 160, 79), (83, 89, 160, 79), (90, 109, 160, 79), (110, 116, 160, 79), (117, 136, 160, 79), (137, 142, 160, 79), (143, 149, 160, 79)]) (by decide) rfl (Nat.le_of_ble_eq_true rfl) ?_
  intro p0 e0 s m0 args below meth c0 Q hq hargs hnA htb hpre ls hl
  obtain ⟨hx, hb, hr, hts, hown, hlocks, hml⟩ := hnA
  obtain ⟨hP, hT, hX, -⟩ := hpre
  have hown : s.vm.findClass RL = some m0.cls := hown
  have hl : lv_has ls 8 [(0, .ref (AD 0)), (1, .int (nI 3)), (2, .int a), (3, .int b), (4, .int c), (5, .int d), (6, .int x)] := hl
  have hS : va_S (cRg AD 0 165) s.heap s.heap [] := va_S.rf
  obtain ⟨bb, hG, h25, hbk, hk5, hch, hHb, hhs, hSvb, hty, hIn7, hln, hLe, hwy⟩ := id hF
  have hHw : ∀ j, j < ch → hAt Hi j 0 ≤ 8 ∧ hAt Hi j 1 ≤ 6 ∧ hAt Hi j 2 ≤ 5 := fun j hj => ⟨(hHb j hj).2.2.1, (hHb j hj).2.2.2.1, (hHb j hj).2.2.2.2.1⟩
  have hbb : bb + 1 < 2 ^ 20 := by omega
  have hb32 : bb + 32 < 2 ^ 20 := by omega
  refine lv_iload_n hx hb dL_act_0 rfl (lv_at hl 1 rfl) ?_
  refine lv_tableIn (off := 82) (tgt := 83) hx hb dL_act_1 (by decide) (by decide) (by decide +kernel) (by decide) ?_
  refine lv_aload_n hx hb dL_act_83 rfl (lv_at hl 0 rfl) ?_
  refine lv_iload_n hx hb dL_act_84 rfl (lv_at hl 2 rfl) ?_
  refine lv_iload_n hx hb dL_act_85 rfl (lv_at hl 3 rfl) ?_
  refine nv_kLX (vx_runV (As := [.int a, .int b]) (rest := []) ⟨hx, hb, hml, hown, hts⟩ (c_X6_set l hl9 (A := cRg AD 0 165) hG hI cRg_self hch hHw h25 hbb a b) (cwV 2 hts (goodIn_m gL_act_X6_set wsM_a) rfl rfl rfl (by decide +kernel) ⟨Nat.le_of_ble_eq_true rfl, Nat.le_of_ble_eq_true rfl⟩) (nt_pVn hT hS (fun _ h => h) hP (va_recv hT.1.1 hP.1 (ci := 8) (q0 := 0) rfl rfl)) rfl rfl hl.1 rfl (lv_room (Nat.le_of_ble_eq_true rfl)) dL_act_86 ⟨Nat.le_of_ble_eq_true rfl, Nat.le_of_ble_eq_true rfl⟩) hS (fun _ h => h) (fun E ce q9 H1 locs1 h0 hE hP1 hK1 hS1 hcell hv9 hcl => ?_) (fun H1 locs1 h0 hP1 hK1 hS1 => ?_)
  · rcases nv_th2 (t := (vSet G a b).1) h0 (vSet_n2 _ _ _) with ht | ht
    · rw [ht] at hE
      have hE : E = "java/lang/IndexOutOfBoundsException" := hE
      subst hE
      refine vx_catch (own := RL) (name := "java/lang/IndexOutOfBoundsException") hown (tableOf [(0, 69, 150, 75), (70, 75, 150, 75), (76, 82, 150, 75), (83, 89, 150, 75), (90, 109, 150, 75), (110, 116, 150, 75), (117, 136, 150, 75), (137, 142, 150, 75), (143, 149, 150, 75)] ++ tableOf [(0, 69, 155, 77), (70, 75, 155, 77), (76, 82, 155, 77), (83, 89, 155, 77), (90, 109, 155, 77), (110, 116, 155, 77), (117, 136, 155, 77), (137, 142, 155, 77), (143, 149, 155, 77)] ++ tableOf [(0, 69, 160, 79), (70, 75, 160, 79), (76, 82, 160, 79)]) ⟨83, 89, 160, 79⟩ (tableOf [(90, 109, 160, 79), (110, 116, 160, 79), (117, 136, 160, 79), (137, 142, 160, 79), (143, 149, 160, 79)]) (by rw [htb]; rfl) (ps_app (ps_app (ps_cl (by decide) (by decide) (hts (.classLink RL 75 "java/lang/UnsupportedOperationException") (by decide +kernel)) (hX.2.1 _ (by decide) _ (by decide) (by decide))) (ps_cl (by decide) (by decide) (hts (.classLink RL 77 "java/lang/IllegalArgumentException") (by decide +kernel)) (hX.2.1 _ (by decide) _ (by decide) (by decide)))) (ps_no (by decide))) (by decide) (by decide) (hts (.classLink RL 79 "java/lang/IndexOutOfBoundsException") (by decide +kernel)) (va_Nw.use rfl (hT.2.2.2.2.2.1 _ (by decide +kernel))) hcell hv9 hcl ?_
      refine lv_astore (lv' := [(7, .ref q9), (0, .ref (AD 0)), (1, .int (nI 3)), (2, .int a), (3, .int b), (4, .int c), (5, .int d), (6, .int x)]) hx hb dL_act_160 hl (by decide) rfl (fun ls hl => ?_)
      refine lv_bipush (v := (-3)) hx hb dL_act_162 (by decide) ?_
      exact nv_retL hq hx hb hr hlocks (Nat.le_of_ble_eq_true rfl) (Nat.le_of_ble_eq_true rfl) (by unfold aR; rw [if_neg h0, if_neg (by rw [ht]; decide)]) hS1 hP1 dL_act_164
    · rw [ht] at hE
      have hE : E = "java/lang/UnsupportedOperationException" := hE
      subst hE
      refine vx_catch (own := RL) (name := "java/lang/UnsupportedOperationException") hown (tableOf [(0, 69, 150, 75), (70, 75, 150, 75), (76, 82, 150, 75)]) ⟨83, 89, 150, 75⟩ (tableOf [(90, 109, 150, 75), (110, 116, 150, 75), (117, 136, 150, 75), (137, 142, 150, 75), (143, 149, 150, 75), (0, 69, 155, 77), (70, 75, 155, 77), (76, 82, 155, 77), (83, 89, 155, 77), (90, 109, 155, 77), (110, 116, 155, 77), (117, 136, 155, 77), (137, 142, 155, 77), (143, 149, 155, 77), (0, 69, 160, 79), (70, 75, 160, 79), (76, 82, 160, 79), (83, 89, 160, 79), (90, 109, 160, 79), (110, 116, 160, 79), (117, 136, 160, 79), (137, 142, 160, 79), (143, 149, 160, 79)]) (by rw [htb]; rfl) (ps_no (by decide)) (by decide) (by decide) (hts (.classLink RL 75 "java/lang/UnsupportedOperationException") (by decide +kernel)) (va_Nw.use rfl (hT.2.2.2.2.2.1 _ (by decide +kernel))) hcell hv9 hcl ?_
      refine lv_astore (lv' := [(7, .ref q9), (0, .ref (AD 0)), (1, .int (nI 3)), (2, .int a), (3, .int b), (4, .int c), (5, .int d), (6, .int x)]) hx hb dL_act_150 hl (by decide) rfl (fun ls hl => ?_)
      refine lv_bipush (v := (-2)) hx hb dL_act_152 (by decide) ?_
      exact nv_retL hq hx hb hr hlocks (Nat.le_of_ble_eq_true rfl) (Nat.le_of_ble_eq_true rfl) (by unfold aR; rw [if_neg h0, if_pos ht]) hS1 hP1 dL_act_154
  exact nv_retL hq hx hb hr hlocks (Nat.le_of_ble_eq_true rfl) (Nat.le_of_ble_eq_true rfl) (by unfold aR; rw [if_pos h0]) hS1 hP1 dL_act_89
set_option maxHeartbeats 1000000 in
set_option maxRecDepth 100000 in
theorem c_L_act_tellEnding (l : Launch) (hl9 : l.stackTraces = false) {D : va_G} {cI cC cD cR cB : ClassId} {sa : sA} {AD : Nat → Nat} {G Sv Hi In Le : Nat → Nat} {hs ch ty wy ln k : Nat} {ea ra wd : Int32} (hI : cInj AD) (hF : lF k G Sv Hi In Le hs ch ty wy ln) (hk : k < 512) (a b c d x : Int32) : vx_Met l yL_act wsM_act ({ frames := 8, cells := 1, slots := 6, locals := 156 }) (va_Pc [.ref (AD 0), .int (nI 4), .int a, .int b, .int c, .int d, .int x] (lPre D [(cI, .int), (cC, .char), (cD, .object "DoorDialect$Door"), (cR, .object "DoorDialect$House")] nN sa (cRg AD 0 165) cB (cW D cI cC cD cR AD G Sv Hi In Le hs ch ty wy ln ea ra wd) [])) (gQ (aR (vTell G a b (bI (c = nI 1)) d) 2) (cWv D cI cC cD cR AD G Sv Hi In Le hs ch ty wy ln ea ra wd (vTell G a b (bI (c = nI 1)) d)) (cRg AD 0 165)) noX 1 6 (cRg AD 0 165) := by
  refine nv_metH (cc := cL_act) (maxL := 8) (ret := (some .int)) (hh := [(0, 69, 150, 75), (70, 75, 150, 75), (76, 82, 150, 75), (83, 89, 150, 75), (90, 109, 150, 75), (110, 116, 150, 75), (117, 136, 150, 75), (137, 142, 150, 75), (143, 149, 150, 75), (0, 69, 155, 77), (70, 75, 155, 77), (76, 82, 155, 77), (83, 89, 155, 77), (90, 109, 155, 77), (110, 116, 155, 77), (117, 136, 155, 77), (137, 142, 155, 77), (143, 149, 155, 77), (0, 69, 160, 79), (70, 75, 160, 79), (76, 82, 160, 79), (83, 89, 160, 79), (90, 109, 160, 79), (110, 116, 160, 79), (117, 136, 160, 79), (137, 142, 160, 79), (143, 149, 160, 79)]) (by decide) rfl (Nat.le_of_ble_eq_true rfl) ?_
  intro p0 e0 s m0 args below meth c0 Q hq hargs hnA htb hpre ls hl
  obtain ⟨hx, hb, hr, hts, hown, hlocks, hml⟩ := hnA
  obtain ⟨hP, hT, hX, -⟩ := hpre
  have hown : s.vm.findClass RL = some m0.cls := hown
  have hl : lv_has ls 8 [(0, .ref (AD 0)), (1, .int (nI 4)), (2, .int a), (3, .int b), (4, .int c), (5, .int d), (6, .int x)] := hl
  have hS : va_S (cRg AD 0 165) s.heap s.heap [] := va_S.rf
  obtain ⟨bb, hG, h25, hbk, hk5, hch, hHb, hhs, hSvb, hty, hIn7, hln, hLe, hwy⟩ := id hF
  have hHw : ∀ j, j < ch → hAt Hi j 0 ≤ 8 ∧ hAt Hi j 1 ≤ 6 ∧ hAt Hi j 2 ≤ 5 := fun j hj => ⟨(hHb j hj).2.2.1, (hHb j hj).2.2.2.1, (hHb j hj).2.2.2.2.1⟩
  have hbb : bb + 1 < 2 ^ 20 := by omega
  have hb32 : bb + 32 < 2 ^ 20 := by omega
  refine lv_iload_n hx hb dL_act_0 rfl (lv_at hl 1 rfl) ?_
  refine lv_tableIn (off := 89) (tgt := 90) hx hb dL_act_1 (by decide) (by decide) (by decide +kernel) (by decide) ?_
  refine lv_aload_n hx hb dL_act_90 rfl (lv_at hl 0 rfl) ?_
  refine lv_iload_n hx hb dL_act_91 rfl (lv_at hl 2 rfl) ?_
  refine lv_iload_n hx hb dL_act_92 rfl (lv_at hl 3 rfl) ?_
  refine lv_iload hx hb dL_act_93 (lv_at hl 4 rfl) ?_
  refine lv_iconst (v := nI 1) hx hb dL_act_95 (by decide) ?_
  refine nv_eq1 hx hb dL_act_96 dL_act_99 dL_act_100 dL_act_103 ?_
  refine lv_iload hx hb dL_act_104 (lv_at hl 5 rfl) ?_
  refine nv_kLX (vx_runV (As := [.int a, .int b, .int (nI (bI (c = nI 1))), .int d]) (rest := []) ⟨hx, hb, hml, hown, hts⟩ (c_X6_tellEnding l hl9 (A := cRg AD 0 165) hG hI cRg_self hch hHw h25 hbb a b (bI (c = nI 1)) d (bI_le _)) (cwV 4 hts (goodIn_m gL_act_X6_tellEnding wsM_a) rfl rfl rfl (by decide +kernel) ⟨Nat.le_of_ble_eq_true rfl, Nat.le_of_ble_eq_true rfl⟩) (nt_pVn hT hS (fun _ h => h) hP (va_recv hT.1.1 hP.1 (ci := 8) (q0 := 0) rfl rfl)) rfl rfl hl.1 rfl (lv_room (Nat.le_of_ble_eq_true rfl)) dL_act_106 ⟨Nat.le_of_ble_eq_true rfl, Nat.le_of_ble_eq_true rfl⟩) hS (fun _ h => h) (fun E ce q9 H1 locs1 h0 hE hP1 hK1 hS1 hcell hv9 hcl => ?_) (fun H1 locs1 h0 hP1 hK1 hS1 => ?_)
  · rcases nv_th2 (t := (vTell G a b (bI (c = nI 1)) d).1) h0 (vTell_n2 _ _ _ _ _) with ht | ht
    · rw [ht] at hE
      have hE : E = "java/lang/IllegalArgumentException" := hE
      subst hE
      refine vx_catch (own := RL) (name := "java/lang/IllegalArgumentException") hown (tableOf [(0, 69, 150, 75), (70, 75, 150, 75), (76, 82, 150, 75), (83, 89, 150, 75), (90, 109, 150, 75), (110, 116, 150, 75), (117, 136, 150, 75), (137, 142, 150, 75), (143, 149, 150, 75)] ++ tableOf [(0, 69, 155, 77), (70, 75, 155, 77), (76, 82, 155, 77), (83, 89, 155, 77)]) ⟨90, 109, 155, 77⟩ (tableOf [(110, 116, 155, 77), (117, 136, 155, 77), (137, 142, 155, 77), (143, 149, 155, 77), (0, 69, 160, 79), (70, 75, 160, 79), (76, 82, 160, 79), (83, 89, 160, 79), (90, 109, 160, 79), (110, 116, 160, 79), (117, 136, 160, 79), (137, 142, 160, 79), (143, 149, 160, 79)]) (by rw [htb]; rfl) (ps_app (ps_cl (by decide) (by decide) (hts (.classLink RL 75 "java/lang/UnsupportedOperationException") (by decide +kernel)) (hX.2.1 _ (by decide) _ (by decide) (by decide))) (ps_no (by decide))) (by decide) (by decide) (hts (.classLink RL 77 "java/lang/IllegalArgumentException") (by decide +kernel)) (va_Nw.use rfl (hT.2.2.2.2.2.1 _ (by decide +kernel))) hcell hv9 hcl ?_
      refine lv_astore (lv' := [(7, .ref q9), (0, .ref (AD 0)), (1, .int (nI 4)), (2, .int a), (3, .int b), (4, .int c), (5, .int d), (6, .int x)]) hx hb dL_act_155 hl (by decide) rfl (fun ls hl => ?_)
      refine lv_bipush (v := (-3)) hx hb dL_act_157 (by decide) ?_
      exact nv_retL hq hx hb hr hlocks (Nat.le_of_ble_eq_true rfl) (Nat.le_of_ble_eq_true rfl) (by unfold aR; rw [if_neg h0, if_neg (by rw [ht]; decide)]) hS1 hP1 dL_act_159
    · rw [ht] at hE
      have hE : E = "java/lang/UnsupportedOperationException" := hE
      subst hE
      refine vx_catch (own := RL) (name := "java/lang/UnsupportedOperationException") hown (tableOf [(0, 69, 150, 75), (70, 75, 150, 75), (76, 82, 150, 75), (83, 89, 150, 75)]) ⟨90, 109, 150, 75⟩ (tableOf [(110, 116, 150, 75), (117, 136, 150, 75), (137, 142, 150, 75), (143, 149, 150, 75), (0, 69, 155, 77), (70, 75, 155, 77), (76, 82, 155, 77), (83, 89, 155, 77), (90, 109, 155, 77), (110, 116, 155, 77), (117, 136, 155, 77), (137, 142, 155, 77), (143, 149, 155, 77), (0, 69, 160, 79), (70, 75, 160, 79), (76, 82, 160, 79), (83, 89, 160, 79), (90, 109, 160, 79), (110, 116, 160, 79), (117, 136, 160, 79), (137, 142, 160, 79), (143, 149, 160, 79)]) (by rw [htb]; rfl) (ps_no (by decide)) (by decide) (by decide) (hts (.classLink RL 75 "java/lang/UnsupportedOperationException") (by decide +kernel)) (va_Nw.use rfl (hT.2.2.2.2.2.1 _ (by decide +kernel))) hcell hv9 hcl ?_
      refine lv_astore (lv' := [(7, .ref q9), (0, .ref (AD 0)), (1, .int (nI 4)), (2, .int a), (3, .int b), (4, .int c), (5, .int d), (6, .int x)]) hx hb dL_act_150 hl (by decide) rfl (fun ls hl => ?_)
      refine lv_bipush (v := (-2)) hx hb dL_act_152 (by decide) ?_
      exact nv_retL hq hx hb hr hlocks (Nat.le_of_ble_eq_true rfl) (Nat.le_of_ble_eq_true rfl) (by unfold aR; rw [if_neg h0, if_pos ht]) hS1 hP1 dL_act_154
  exact nv_retL hq hx hb hr hlocks (Nat.le_of_ble_eq_true rfl) (Nat.le_of_ble_eq_true rfl) (by unfold aR; rw [if_pos h0]) hS1 hP1 dL_act_109
