set_option maxHeartbeats 4000000 in
set_option maxRecDepth 100000 in
theorem law_J {p0 : Program} {e0 : Env} {s : State} {m0 : MethodId} {below : List Frame} {meth : Method} {c0 : Code} {Q : State → Prop} {l : Launch} {b9 L : Nat} {xs : Nat → Int32} {D : va_G} {cI cC cD cR cB : ClassId} {sa : sA} (hC : lwC p0 l s m0 c0 b9 L xs D cI cC cD cR cB sa) {G : Nat → Nat} {ADx ADz : Nat → Nat} (hIx : cInj ADx) (hAx : ∀ i, i < 165 → s.heap.size ≤ ADx i) (hIz : cInj ADz) (hAz : ∀ i, i < 165 → s.heap.size ≤ ADz i) (hxz : ∀ i j, i < 165 → j < 165 → ADx i ≠ ADz j) (hzx : ∀ i j, i < 165 → j < 165 → ADz i ≠ ADx j) {g : Nat} (hg : g < 3) {Hz In Le : Nat → Nat} {cz : Nat} (hFz : lF 44 (zT6 g) qZ Hz In Le 0 cz 0 7 8) (kz : ∀ (Hz In Le : Nat → Nat) (cz : Nat), lF 48 (zT9 g) qZ Hz In Le 0 cz 0 4 8 → ∀ (H : Heap) (locs : List Loc) (ls : Array Slot), (xV D cI cC cD cR ADx 176 G H ∧ cW D cI cC cD cR ADz (zT9 g) qZ Hz In Le 0 cz 0 4 8 (-1) (-1) (nI 1) H) → va_S (aN s.heap.size) s.heap H locs → lv_has ls 13 [(12, .ref (ADz 0)), (11, .int (nI (gl g))), (10, .int (nI (gH g))), (9, .int (nI g)), (4, .int (stF G)), (3, .int (nI (G 0))), (1, .ref (ADx 0)), (0, .ref b9)] → W p0 l e0 room_1 s m0 #[Value.ref b9] below meth c0 H locs (2000 * 10) (20000 * 10) Q (F0 m0 1252 ls [])) : ∀ (H : Heap) (locs : List Loc) (ls : Array Slot), (xV D cI cC cD cR ADx 176 G H ∧ cW D cI cC cD cR ADz (zT6 g) qZ Hz In Le 0 cz 0 7 8 (-1) (-1) (nI 1) H) → va_S (aN s.heap.size) s.heap H locs → lv_has ls 13 [(12, .ref (ADz 0)), (11, .int (nI (gl g))), (10, .int (nI (gH g))), (9, .int (nI g)), (4, .int (stF G)), (3, .int (nI (G 0))), (1, .ref (ADx 0)), (0, .ref b9)] → W p0 l e0 room_1 s m0 #[Value.ref b9] below meth c0 H locs (2000 * 9) (20000 * 9) Q (F0 m0 1043 ls []) := by
  obtain ⟨hx, hb, hml, hown, hts, hl9, hXs, hbl, hL, hT, hX⟩ := id hC
  rintro H locs ls ⟨hPx, hPz⟩ hS hl
  have hsx : ∀ q, cRg ADx 0 165 q → aN s.heap.size q := cRg_A hAx (Nat.le_refl _)
  have hsz : ∀ q, cRg ADz 0 165 q → aN s.heap.size q := cRg_A hAz (Nat.le_refl _)
  refine lv_aload hx hb dL_law_1043 (lv_at hl 0 rfl) ?_
  refine lv_iconst (v := nI 0) hx hb dL_law_1045 (by decide) ?_
  obtain ⟨bqz, hGz, h25z, hbkz, hk5z, hchz, hHbz, hhsz, hSvbz, htyz, hIn7z, hlnz, hLez, hwyz⟩ := id hFz
  have hHwz : ∀ j, j < _ → hAt _ j 0 ≤ 8 ∧ hAt _ j 1 ≤ 6 ∧ hAt _ j 2 ≤ 5 := fun j hj => ⟨(hHbz j hj).2.2.1, (hHbz j hj).2.2.2.1, (hHbz j hj).2.2.2.2.1⟩
  have hbbz : bqz + 1 < 2 ^ 20 := by omega
  have hb32z : bqz + 32 < 2 ^ 20 := by omega
  have h13z : bqz < 8192 := by omega
  refine nv_kLX (vx_runV (As := [.int (nI 0)]) (rest := []) ⟨hx, hb, hml, hown, hts⟩ (c_N6_best l hl9 (A := cRg ADz 0 165) hGz hIz cRg_self (nI 0)) (cwV 1 hts gL_law_X6_best rfl rfl rfl (by decide +kernel) ⟨Nat.le_of_ble_eq_true rfl, Nat.le_of_ble_eq_true rfl⟩) (nt_pVn hT hS hsz hPz (va_recv hT.1.1 hPz.1 (ci := 8) (q0 := 0) rfl rfl)) rfl rfl hl.1 rfl (lv_room (Nat.le_of_ble_eq_true rfl)) dL_law_1046 ⟨Nat.le_of_ble_eq_true rfl, Nat.le_of_ble_eq_true rfl⟩) hS hsz (fun E ce q9 H1 locs1 h0 hE hP1 hK1 hS1 hcell hv9 hcl => absurd (by rw [if_pos (show iR (nI 0) 6 by decide), tN_nI (by decide), (z6_b g hg).1]; decide) h0) (fun H locs h0 hPz hK hS => ?_)
  refine nv_to 0 (by rw [if_pos (show iR (nI 0) 6 by decide), tN_nI (by decide), (z6_b g hg).1]; decide) ?_
  have hPx := xV_keep hPx hK hzx
  refine nv_if_ne (tgt := 1250) hx hb dL_law_1049 (by decide) (by omega) (fun c9 => absurd c9 (by decide)) (fun _ => ?_)
  refine lv_aload hx hb dL_law_1052 (lv_at hl 0 rfl) ?_
  refine lv_iconst (v := nI 1) hx hb dL_law_1054 (by decide) ?_
  refine nv_kLX (vx_runV (As := [.int (nI 1)]) (rest := []) ⟨hx, hb, hml, hown, hts⟩ (c_N6_best l hl9 (A := cRg ADz 0 165) hGz hIz cRg_self (nI 1)) (cwV 1 hts gL_law_X6_best rfl rfl rfl (by decide +kernel) ⟨Nat.le_of_ble_eq_true rfl, Nat.le_of_ble_eq_true rfl⟩) (nt_pVn hT hS hsz hPz (va_recv hT.1.1 hPz.1 (ci := 8) (q0 := 0) rfl rfl)) rfl rfl hl.1 rfl (lv_room (Nat.le_of_ble_eq_true rfl)) dL_law_1055 ⟨Nat.le_of_ble_eq_true rfl, Nat.le_of_ble_eq_true rfl⟩) hS hsz (fun E ce q9 H1 locs1 h0 hE hP1 hK1 hS1 hcell hv9 hcl => absurd (by rw [if_pos (show iR (nI 1) 6 by decide), tN_nI (by decide), (z6_b g hg).2]; decide) h0) (fun H locs h0 hPz hK hS => ?_)
  refine nv_to 0 (by rw [if_pos (show iR (nI 1) 6 by decide), tN_nI (by decide), (z6_b g hg).2]; decide) ?_
  have hPx := xV_keep hPx hK hzx
  refine nv_if_ne (tgt := 1250) hx hb dL_law_1058 (by decide) (by omega) (fun c9 => absurd c9 (by decide)) (fun _ => ?_)
  refine lv_aload hx hb dL_law_1061 (lv_at hl 0 rfl) ?_
  refine lv_iconst (v := nI 0) hx hb dL_law_1063 (by decide) ?_
  refine lv_iload hx hb dL_law_1064 (lv_at hl 3 rfl) ?_
  refine lv_iconst (v := nI 0) hx hb dL_law_1066 (by decide) ?_
  refine lv_iconst (v := nI 0) hx hb dL_law_1067 (by decide) ?_
  obtain ⟨bqz, hGz, h25z, hbkz, hk5z, hchz, hHbz, hhsz, hSvbz, htyz, hIn7z, hlnz, hLez, hwyz⟩ := id hFz
  have hHwz : ∀ j, j < _ → hAt _ j 0 ≤ 8 ∧ hAt _ j 1 ≤ 6 ∧ hAt _ j 2 ≤ 5 := fun j hj => ⟨(hHbz j hj).2.2.1, (hHbz j hj).2.2.2.1, (hHbz j hj).2.2.2.2.1⟩
  have hbbz : bqz + 1 < 2 ^ 20 := by omega
  have hb32z : bqz + 32 < 2 ^ 20 := by omega
  have h13z : bqz < 8192 := by omega
  refine nv_kLX (vx_runV (As := [.int (nI 0), .int (nI g), .int (nI 0), .int (nI 0)]) (rest := []) ⟨hx, hb, hml, hown, hts⟩ (c_X6_knock l hl9 (A := cRg ADz 0 165) hGz hIz cRg_self hchz hHwz h25z hbbz (nI 0) (nI g) 0 (nI 0) (by decide)) (cwV 4 hts gL_law_X6_knock rfl rfl rfl (by decide +kernel) ⟨Nat.le_of_ble_eq_true rfl, Nat.le_of_ble_eq_true rfl⟩) (nt_pVn hT hS hsz hPz (va_recv hT.1.1 hPz.1 (ci := 8) (q0 := 0) rfl rfl)) rfl rfl hl.1 rfl (lv_room (Nat.le_of_ble_eq_true rfl)) dL_law_1068 ⟨Nat.le_of_ble_eq_true rfl, Nat.le_of_ble_eq_true rfl⟩) hS hsz (fun E ce q9 H1 locs1 h0 hE hP1 hK1 hS1 hcell hv9 hcl => absurd ((zs6 g hg).1) h0) (fun H locs h0 hPz hK hS => ?_)
  refine nv_to 3 (zs6 g hg).2.2.1 ?_
  have hPx := xV_keep hPx hK hzx
  obtain ⟨Hz, cz, hFz, hPz⟩ := zW_step (G2 := zT7 g) (k2 := 45) hFz (by decide) hPz (fun b9 h1 h2 h3 => vWf_vKnock h1 h2 h3) (zs6 g hg).2.1 (zs6 g hg).2.2.2 rfl
  refine lv_iconst (v := nI 3) hx hb dL_law_1071 (by decide) ?_
  refine nv_icmp_ne (tgt := 1250) hx hb dL_law_1072 (by decide) (by omega) (by omega) (fun c9 => absurd rfl c9) (fun _ => ?_)
  refine lv_aload hx hb dL_law_1075 (lv_at hl 0 rfl) ?_
  refine lv_iconst (v := nI 0) hx hb dL_law_1077 (by decide) ?_
  obtain ⟨bqz, hGz, h25z, hbkz, hk5z, hchz, hHbz, hhsz, hSvbz, htyz, hIn7z, hlnz, hLez, hwyz⟩ := id hFz
  have hHwz : ∀ j, j < _ → hAt _ j 0 ≤ 8 ∧ hAt _ j 1 ≤ 6 ∧ hAt _ j 2 ≤ 5 := fun j hj => ⟨(hHbz j hj).2.2.1, (hHbz j hj).2.2.2.1, (hHbz j hj).2.2.2.2.1⟩
  have hbbz : bqz + 1 < 2 ^ 20 := by omega
  have hb32z : bqz + 32 < 2 ^ 20 := by omega
  have h13z : bqz < 8192 := by omega
  refine nv_kLX (vx_runV (As := [.int (nI 0)]) (rest := []) ⟨hx, hb, hml, hown, hts⟩ (c_N6_best l hl9 (A := cRg ADz 0 165) hGz hIz cRg_self (nI 0)) (cwV 1 hts gL_law_X6_best rfl rfl rfl (by decide +kernel) ⟨Nat.le_of_ble_eq_true rfl, Nat.le_of_ble_eq_true rfl⟩) (nt_pVn hT hS hsz hPz (va_recv hT.1.1 hPz.1 (ci := 8) (q0 := 0) rfl rfl)) rfl rfl hl.1 rfl (lv_room (Nat.le_of_ble_eq_true rfl)) dL_law_1078 ⟨Nat.le_of_ble_eq_true rfl, Nat.le_of_ble_eq_true rfl⟩) hS hsz (fun E ce q9 H1 locs1 h0 hE hP1 hK1 hS1 hcell hv9 hcl => absurd (by rw [if_pos (show iR (nI 0) 6 by decide), tN_nI (by decide), (z7_f g hg).1]; decide) h0) (fun H locs h0 hPz hK hS => ?_)
  refine nv_to 1 (by rw [if_pos (show iR (nI 0) 6 by decide), tN_nI (by decide), (z7_f g hg).1]; decide) ?_
  have hPx := xV_keep hPx hK hzx
  refine lv_iconst (v := nI 1) hx hb dL_law_1081 (by decide) ?_
  refine nv_icmp_ne (tgt := 1250) hx hb dL_law_1082 (by decide) (by omega) (by omega) (fun c9 => absurd rfl c9) (fun _ => ?_)
  refine lv_aload hx hb dL_law_1085 (lv_at hl 0 rfl) ?_
  refine lv_iconst (v := nI 0) hx hb dL_law_1087 (by decide) ?_
  refine lv_iconst (v := nI 1) hx hb dL_law_1088 (by decide) ?_
  refine lv_iconst (v := nI 0) hx hb dL_law_1089 (by decide) ?_
  refine nv_kLX (vx_runV (As := [.int (nI 0), .int (nI 1), .int (nI 0)]) (rest := []) ⟨hx, hb, hml, hown, hts⟩ (c_N6_way l hl9 (A := cRg ADz 0 165) hGz hIz cRg_self (nI 0) (nI 1) 0 (by decide)) (cwV 3 hts gL_law_X6_way rfl rfl rfl (by decide +kernel) ⟨Nat.le_of_ble_eq_true rfl, Nat.le_of_ble_eq_true rfl⟩) (nt_pVn hT hS hsz hPz (va_recv hT.1.1 hPz.1 (ci := 8) (q0 := 0) rfl rfl)) rfl rfl hl.1 rfl (lv_room (Nat.le_of_ble_eq_true rfl)) dL_law_1090 ⟨Nat.le_of_ble_eq_true rfl, Nat.le_of_ble_eq_true rfl⟩) hS hsz (fun E ce q9 H1 locs1 h0 hE hP1 hK1 hS1 hcell hv9 hcl => absurd (by rw [if_pos (show iR (nI 0) 6 ∧ iR (nI 1) 6 from ⟨by decide, by decide⟩), tN_nI (k := 0) (by decide), tN_nI (k := 1) (by decide), (z7_f g hg).2.1]; rfl) h0) (fun H locs h0 hPz hK hS => ?_)
  refine nv_to 1 (by rw [if_pos (show iR (nI 0) 6 ∧ iR (nI 1) 6 from ⟨by decide, by decide⟩), tN_nI (k := 0) (by decide), tN_nI (k := 1) (by decide), (z7_f g hg).2.1]; rfl) ?_
  have hPx := xV_keep hPx hK hzx
  refine lv_iconst (v := nI 1) hx hb dL_law_1093 (by decide) ?_
  refine nv_icmp_ne (tgt := 1250) hx hb dL_law_1094 (by decide) (by omega) (by omega) (fun c9 => absurd rfl c9) (fun _ => ?_)
  refine lv_aload hx hb dL_law_1097 (lv_at hl 0 rfl) ?_
  refine lv_iconst (v := nI 0) hx hb dL_law_1099 (by decide) ?_
  refine nv_kLX (vx_runV (As := [.int (nI 0)]) (rest := []) ⟨hx, hb, hml, hown, hts⟩ (c_X6_reached l hl9 (A := cRg ADz 0 165) hGz hIz cRg_self (nI 0)) (cwV 1 hts gL_law_X6_reached rfl rfl rfl (by decide +kernel) ⟨Nat.le_of_ble_eq_true rfl, Nat.le_of_ble_eq_true rfl⟩) (nt_pVn hT hS hsz hPz (va_recv hT.1.1 hPz.1 (ci := 8) (q0 := 0) rfl rfl)) rfl rfl hl.1 rfl (lv_room (Nat.le_of_ble_eq_true rfl)) dL_law_1100 ⟨Nat.le_of_ble_eq_true rfl, Nat.le_of_ble_eq_true rfl⟩) hS hsz (fun E ce q9 H1 locs1 h0 hE hP1 hK1 hS1 hcell hv9 hcl => absurd (if_pos (by decide)) h0) (fun H locs h0 hPz hK hS => ?_)
  refine nv_to 3 (by rw [if_pos (show iR (nI 0) 6 by decide), tN_nI (by decide), (z7_f g hg).2.2]) ?_
  have hPx := xV_keep hPx hK hzx
  refine lv_iconst (v := nI 3) hx hb dL_law_1103 (by decide) ?_
  refine nv_icmp_ne (tgt := 1250) hx hb dL_law_1104 (by decide) (by omega) (by omega) (fun c9 => absurd rfl c9) (fun _ => ?_)
  refine lv_aload hx hb dL_law_1107 (lv_at hl 0 rfl) ?_
  refine lv_bipush (v := nI 6) hx hb dL_law_1109 (by decide) ?_
  refine lv_iconst (v := nI 0) hx hb dL_law_1111 (by decide) ?_
  refine lv_iload hx hb dL_law_1112 (lv_at hl 3 rfl) ?_
  refine lv_iconst (v := nI 0) hx hb dL_law_1114 (by decide) ?_
  refine lv_iconst (v := nI 0) hx hb dL_law_1115 (by decide) ?_
  refine lv_iconst (v := nI 0) hx hb dL_law_1116 (by decide) ?_
  have hb0 : bI (nI 0 = nI 1) = 0 := by decide
  refine nv_kN (vx_runSX (hh := [(0, 69, 150, 75), (70, 75, 150, 75), (76, 82, 150, 75), (83, 89, 150, 75), (90, 109, 150, 75), (110, 116, 150, 75), (117, 136, 150, 75), (137, 142, 150, 75), (143, 149, 150, 75), (0, 69, 155, 77), (70, 75, 155, 77), (76, 82, 155, 77), (83, 89, 155, 77), (90, 109, 155, 77), (110, 116, 155, 77), (117, 136, 155, 77), (137, 142, 155, 77), (143, 149, 155, 77), (0, 69, 160, 79), (70, 75, 160, 79), (76, 82, 160, 79), (83, 89, 160, 79), (90, 109, 160, 79), (110, 116, 160, 79), (117, 136, 160, 79), (137, 142, 160, 79), (143, 149, 160, 79)]) (As := [.ref (ADz 0), .int (nI 6), .int (nI 0), .int (nI g), .int (nI 0), .int (nI 0), .int (nI 0)]) (rest := []) ⟨hx, hb, hml, hown, hts⟩ (c_L_act_knock l hl9 hIz hFz (by decide) (nI 0) (nI g) (nI 0) (nI 0) (nI 0)) (vx_cwSW 7 hts gL_law_L_act rfl rfl rfl (by decide +kernel) ⟨Nat.le_of_ble_eq_true rfl, Nat.le_of_ble_eq_true rfl⟩) (nl_pS hT hX tx0 hS hsz hPz) rfl rfl hl.1 rfl (lv_room (Nat.le_of_ble_eq_true rfl)) dL_law_1117 ⟨Nat.le_of_ble_eq_true rfl, Nat.le_of_ble_eq_true rfl⟩) hS hsz (fun H locs hPz hK hS => ?_)
  have hPx := xV_keep hPx hK hzx
  refine nv_toi (-2) (by rw [hb0]; exact aR_ref (zr7 g hg).1 (by decide)) ?_
  rw [hb0] at hPz
  obtain ⟨Hz, cz, hFz, hPz⟩ := zW_ref (w := 4) (d := nI 1) (k2 := 46) hFz (by decide) hPz (by rw [(zr7 g hg).1]; decide) (vKnock_G (by rw [(zr7 g hg).1]; decide)).1 (zr7 g hg).2.1 (zr7 g hg).2.2 (by decide) (by decide) rfl
  refine lv_bipush (v := (-2)) hx hb dL_law_1120 (by decide) ?_
  refine lv_icmp_ne (tgt := 1250) hx hb dL_law_1122 (by decide) (fun c9 => absurd rfl c9) (fun _ => ?_)
  refine lv_aload hx hb dL_law_1125 (lv_at hl 0 rfl) ?_
  refine lv_iconst (v := nI 0) hx hb dL_law_1127 (by decide) ?_
  refine nv_kLX (vx_runV (As := [.int (nI 0)]) (rest := []) ⟨hx, hb, hml, hown, hts⟩ (c_X6_refusal l hl9 (A := cRg ADz 0 165) (b := 0) 0 (by decide) (by decide)) (cwV 1 hts gL_law_X6_refusal rfl rfl rfl (by decide +kernel) ⟨Nat.le_of_ble_eq_true rfl, Nat.le_of_ble_eq_true rfl⟩) (nt_pVn hT hS hsz hPz (va_recv hT.1.1 hPz.1 (ci := 8) (q0 := 0) rfl rfl)) rfl rfl hl.1 rfl (lv_room (Nat.le_of_ble_eq_true rfl)) dL_law_1128 ⟨Nat.le_of_ble_eq_true rfl, Nat.le_of_ble_eq_true rfl⟩) hS hsz (fun E ce q9 H1 locs1 h0 hE hP1 hK1 hS1 hcell hv9 hcl => absurd (if_neg (by decide)) h0) (fun H locs h0 hPz hK hS => ?_)
  refine nv_to 4 (by rw [if_neg (show ¬ (4 : Nat) = 0 by decide), if_pos rfl]) ?_
  have hPx := xV_keep hPx hK hzx
  refine lv_iconst (v := nI 4) hx hb dL_law_1131 (by decide) ?_
  refine nv_icmp_ne (tgt := 1250) hx hb dL_law_1132 (by decide) (by omega) (by omega) (fun c9 => absurd rfl c9) (fun _ => ?_)
  refine lv_aload hx hb dL_law_1135 (lv_at hl 0 rfl) ?_
  refine lv_iconst (v := nI 1) hx hb dL_law_1137 (by decide) ?_
  refine nv_kLX (vx_runV (As := [.int (nI 1)]) (rest := []) ⟨hx, hb, hml, hown, hts⟩ (c_X6_refusal l hl9 (A := cRg ADz 0 165) (b := 0) 1 (by decide) (by decide)) (cwV 1 hts gL_law_X6_refusal rfl rfl rfl (by decide +kernel) ⟨Nat.le_of_ble_eq_true rfl, Nat.le_of_ble_eq_true rfl⟩) (nt_pVn hT hS hsz hPz (va_recv hT.1.1 hPz.1 (ci := 8) (q0 := 0) rfl rfl)) rfl rfl hl.1 rfl (lv_room (Nat.le_of_ble_eq_true rfl)) dL_law_1138 ⟨Nat.le_of_ble_eq_true rfl, Nat.le_of_ble_eq_true rfl⟩) hS hsz (fun E ce q9 H1 locs1 h0 hE hP1 hK1 hS1 hcell hv9 hcl => absurd (if_neg (by decide)) h0) (fun H locs h0 hPz hK hS => ?_)
  refine nv_to 1 (by rw [if_neg (show ¬ (4 : Nat) = 0 by decide), if_neg (show ¬ (1 : Nat) = 0 by decide)]) ?_
  have hPx := xV_keep hPx hK hzx
  refine lv_iconst (v := nI 1) hx hb dL_law_1141 (by decide) ?_
  refine nv_icmp_ne (tgt := 1250) hx hb dL_law_1142 (by decide) (by omega) (by omega) (fun c9 => absurd rfl c9) (fun _ => ?_)
  refine lv_aload hx hb dL_law_1145 (lv_at hl 0 rfl) ?_
  refine lv_iconst (v := nI 1) hx hb dL_law_1147 (by decide) ?_
  refine lv_iload hx hb dL_law_1148 (lv_at hl 3 rfl) ?_
  refine lv_iconst (v := nI 0) hx hb dL_law_1150 (by decide) ?_
  refine lv_iconst (v := nI 0) hx hb dL_law_1151 (by decide) ?_
  obtain ⟨bqz, hGz, h25z, hbkz, hk5z, hchz, hHbz, hhsz, hSvbz, htyz, hIn7z, hlnz, hLez, hwyz⟩ := id hFz
  have hHwz : ∀ j, j < _ → hAt _ j 0 ≤ 8 ∧ hAt _ j 1 ≤ 6 ∧ hAt _ j 2 ≤ 5 := fun j hj => ⟨(hHbz j hj).2.2.1, (hHbz j hj).2.2.2.1, (hHbz j hj).2.2.2.2.1⟩
  have hbbz : bqz + 1 < 2 ^ 20 := by omega
  have hb32z : bqz + 32 < 2 ^ 20 := by omega
  have h13z : bqz < 8192 := by omega
  refine nv_kLX (vx_runV (As := [.int (nI 1), .int (nI g), .int (nI 0), .int (nI 0)]) (rest := []) ⟨hx, hb, hml, hown, hts⟩ (c_X6_knock l hl9 (A := cRg ADz 0 165) hGz hIz cRg_self hchz hHwz h25z hbbz (nI 1) (nI g) 0 (nI 0) (by decide)) (cwV 4 hts gL_law_X6_knock rfl rfl rfl (by decide +kernel) ⟨Nat.le_of_ble_eq_true rfl, Nat.le_of_ble_eq_true rfl⟩) (nt_pVn hT hS hsz hPz (va_recv hT.1.1 hPz.1 (ci := 8) (q0 := 0) rfl rfl)) rfl rfl hl.1 rfl (lv_room (Nat.le_of_ble_eq_true rfl)) dL_law_1152 ⟨Nat.le_of_ble_eq_true rfl, Nat.le_of_ble_eq_true rfl⟩) hS hsz (fun E ce q9 H1 locs1 h0 hE hP1 hK1 hS1 hcell hv9 hcl => absurd ((zs7 g hg).1) h0) (fun H locs h0 hPz hK hS => ?_)
  refine nv_to 2 (zs7 g hg).2.2.1 ?_
  have hPx := xV_keep hPx hK hzx
  obtain ⟨Hz, cz, hFz, hPz⟩ := zW_step (G2 := zT8 g) (k2 := 47) hFz (by decide) hPz (fun b9 h1 h2 h3 => vWf_vKnock h1 h2 h3) (zs7 g hg).2.1 (zs7 g hg).2.2.2 rfl
  refine lv_iconst (v := nI 2) hx hb dL_law_1155 (by decide) ?_
  refine nv_icmp_ne (tgt := 1250) hx hb dL_law_1156 (by decide) (by omega) (by omega) (fun c9 => absurd rfl c9) (fun _ => ?_)
  refine lv_aload hx hb dL_law_1159 (lv_at hl 0 rfl) ?_
  refine lv_iconst (v := nI 1) hx hb dL_law_1161 (by decide) ?_
  refine lv_iload hx hb dL_law_1162 (lv_at hl 3 rfl) ?_
  refine lv_iconst (v := nI 0) hx hb dL_law_1164 (by decide) ?_
  refine lv_iconst (v := nI 3) hx hb dL_law_1165 (by decide) ?_
  obtain ⟨bqz, hGz, h25z, hbkz, hk5z, hchz, hHbz, hhsz, hSvbz, htyz, hIn7z, hlnz, hLez, hwyz⟩ := id hFz
  have hHwz : ∀ j, j < _ → hAt _ j 0 ≤ 8 ∧ hAt _ j 1 ≤ 6 ∧ hAt _ j 2 ≤ 5 := fun j hj => ⟨(hHbz j hj).2.2.1, (hHbz j hj).2.2.2.1, (hHbz j hj).2.2.2.2.1⟩
  have hbbz : bqz + 1 < 2 ^ 20 := by omega
  have hb32z : bqz + 32 < 2 ^ 20 := by omega
  have h13z : bqz < 8192 := by omega
  refine nv_kLX (vx_runV (As := [.int (nI 1), .int (nI g), .int (nI 0), .int (nI 3)]) (rest := []) ⟨hx, hb, hml, hown, hts⟩ (c_X6_knock l hl9 (A := cRg ADz 0 165) hGz hIz cRg_self hchz hHwz h25z hbbz (nI 1) (nI g) 0 (nI 3) (by decide)) (cwV 4 hts gL_law_X6_knock rfl rfl rfl (by decide +kernel) ⟨Nat.le_of_ble_eq_true rfl, Nat.le_of_ble_eq_true rfl⟩) (nt_pVn hT hS hsz hPz (va_recv hT.1.1 hPz.1 (ci := 8) (q0 := 0) rfl rfl)) rfl rfl hl.1 rfl (lv_room (Nat.le_of_ble_eq_true rfl)) dL_law_1166 ⟨Nat.le_of_ble_eq_true rfl, Nat.le_of_ble_eq_true rfl⟩) hS hsz (fun E ce q9 H1 locs1 h0 hE hP1 hK1 hS1 hcell hv9 hcl => absurd ((zs8 g hg).1) h0) (fun H locs h0 hPz hK hS => ?_)
  refine nv_to 3 (zs8 g hg).2.2.1 ?_
  have hPx := xV_keep hPx hK hzx
  obtain ⟨Hz, cz, hFz, hPz⟩ := zW_step (G2 := zT9 g) (k2 := 48) hFz (by decide) hPz (fun b9 h1 h2 h3 => vWf_vKnock h1 h2 h3) (zs8 g hg).2.1 (zs8 g hg).2.2.2 rfl
  refine lv_iconst (v := nI 3) hx hb dL_law_1169 (by decide) ?_
  refine nv_icmp_ne (tgt := 1250) hx hb dL_law_1170 (by decide) (by omega) (by omega) (fun c9 => absurd rfl c9) (fun _ => ?_)
  refine lv_aload hx hb dL_law_1173 (lv_at hl 0 rfl) ?_
  refine lv_iconst (v := nI 1) hx hb dL_law_1175 (by decide) ?_
  refine lv_iconst (v := nI 5) hx hb dL_law_1176 (by decide) ?_
  obtain ⟨bqz, hGz, h25z, hbkz, hk5z, hchz, hHbz, hhsz, hSvbz, htyz, hIn7z, hlnz, hLez, hwyz⟩ := id hFz
  have hHwz : ∀ j, j < _ → hAt _ j 0 ≤ 8 ∧ hAt _ j 1 ≤ 6 ∧ hAt _ j 2 ≤ 5 := fun j hj => ⟨(hHbz j hj).2.2.1, (hHbz j hj).2.2.2.1, (hHbz j hj).2.2.2.2.1⟩
  have hbbz : bqz + 1 < 2 ^ 20 := by omega
  have hb32z : bqz + 32 < 2 ^ 20 := by omega
  have h13z : bqz < 8192 := by omega
  refine nv_kLX (vx_runV (As := [.int (nI 1), .int (nI 5)]) (rest := []) ⟨hx, hb, hml, hown, hts⟩ (c_X6_doorOf l hl9 (A := cRg ADz 0 165) hGz hIz cRg_self (nI 1) (nI 5)) (cwV 2 hts gL_law_X6_doorOf rfl rfl rfl (by decide +kernel) ⟨Nat.le_of_ble_eq_true rfl, Nat.le_of_ble_eq_true rfl⟩) (nt_pVn hT hS hsz hPz (va_recv hT.1.1 hPz.1 (ci := 8) (q0 := 0) rfl rfl)) rfl rfl hl.1 rfl (lv_room (Nat.le_of_ble_eq_true rfl)) dL_law_1177 ⟨Nat.le_of_ble_eq_true rfl, Nat.le_of_ble_eq_true rfl⟩) hS hsz (fun E ce q9 H1 locs1 h0 hE hP1 hK1 hS1 hcell hv9 hcl => absurd ((if_pos (show iR (nI 1) ((zT9 g) 0) from by rw [show (zT9 g) 0 = 2 from rfl]; decide)).trans (if_pos (by decide))) h0) (fun H locs h0 hPz hK hS => ?_)
  refine nv_to 0 (by rw [if_pos (show iR (nI 1) ((zT9 g) 0) from by rw [show (zT9 g) 0 = 2 from rfl]; decide), if_pos (show iR (nI 5) 11 by decide), tN_nI (k := 1) (by decide), tN_nI (k := 5) (by decide)]; exact congrArg nI (z9_f g hg).1) ?_
  have hPx := xV_keep hPx hK hzx
  refine nv_if_ne (tgt := 1250) hx hb dL_law_1180 (by decide) (by omega) (fun c9 => absurd c9 (by decide)) (fun _ => ?_)
  refine lv_aload hx hb dL_law_1183 (lv_at hl 0 rfl) ?_
  refine lv_iconst (v := nI 0) hx hb dL_law_1185 (by decide) ?_
  refine lv_iconst (v := nI 2) hx hb dL_law_1186 (by decide) ?_
  refine lv_iconst (v := nI 1) hx hb dL_law_1187 (by decide) ?_
  refine nv_kLX (vx_runV (As := [.int (nI 0), .int (nI 2), .int (nI 1)]) (rest := []) ⟨hx, hb, hml, hown, hts⟩ (c_N6_way l hl9 (A := cRg ADz 0 165) hGz hIz cRg_self (nI 0) (nI 2) 1 (by decide)) (cwV 3 hts gL_law_X6_way rfl rfl rfl (by decide +kernel) ⟨Nat.le_of_ble_eq_true rfl, Nat.le_of_ble_eq_true rfl⟩) (nt_pVn hT hS hsz hPz (va_recv hT.1.1 hPz.1 (ci := 8) (q0 := 0) rfl rfl)) rfl rfl hl.1 rfl (lv_room (Nat.le_of_ble_eq_true rfl)) dL_law_1188 ⟨Nat.le_of_ble_eq_true rfl, Nat.le_of_ble_eq_true rfl⟩) hS hsz (fun E ce q9 H1 locs1 h0 hE hP1 hK1 hS1 hcell hv9 hcl => absurd (by rw [if_pos (show iR (nI 0) 6 ∧ iR (nI 2) 6 from ⟨by decide, by decide⟩), tN_nI (k := 0) (by decide), tN_nI (k := 2) (by decide), (z9_w g hg).1]; rfl) h0) (fun H locs h0 hPz hK hS => ?_)
  refine nv_to 2 (by rw [if_pos (show iR (nI 0) 6 ∧ iR (nI 2) 6 from ⟨by decide, by decide⟩), tN_nI (k := 0) (by decide), tN_nI (k := 2) (by decide), (z9_w g hg).1]; rfl) ?_
  have hPx := xV_keep hPx hK hzx
  refine lv_iconst (v := nI 2) hx hb dL_law_1191 (by decide) ?_
  refine nv_icmp_ne (tgt := 1250) hx hb dL_law_1192 (by decide) (by omega) (by omega) (fun c9 => absurd rfl c9) (fun _ => ?_)
  refine lv_aload hx hb dL_law_1195 (lv_at hl 0 rfl) ?_
  refine lv_iconst (v := nI 2) hx hb dL_law_1197 (by decide) ?_
  refine nv_kLX (vx_runV (As := [.int (nI 2)]) (rest := []) ⟨hx, hb, hml, hown, hts⟩ (c_X6_reached l hl9 (A := cRg ADz 0 165) hGz hIz cRg_self (nI 2)) (cwV 1 hts gL_law_X6_reached rfl rfl rfl (by decide +kernel) ⟨Nat.le_of_ble_eq_true rfl, Nat.le_of_ble_eq_true rfl⟩) (nt_pVn hT hS hsz hPz (va_recv hT.1.1 hPz.1 (ci := 8) (q0 := 0) rfl rfl)) rfl rfl hl.1 rfl (lv_room (Nat.le_of_ble_eq_true rfl)) dL_law_1198 ⟨Nat.le_of_ble_eq_true rfl, Nat.le_of_ble_eq_true rfl⟩) hS hsz (fun E ce q9 H1 locs1 h0 hE hP1 hK1 hS1 hcell hv9 hcl => absurd (if_pos (by decide)) h0) (fun H locs h0 hPz hK hS => ?_)
  refine nv_to 7 (by rw [if_pos (show iR (nI 2) 6 by decide), tN_nI (by decide), (z9_w g hg).2.1]) ?_
  have hPx := xV_keep hPx hK hzx
  refine lv_bipush (v := nI 7) hx hb dL_law_1201 (by decide) ?_
  refine nv_icmp_ne (tgt := 1250) hx hb dL_law_1203 (by decide) (by omega) (by omega) (fun c9 => absurd rfl c9) (fun _ => ?_)
  refine lv_aload hx hb dL_law_1206 (lv_at hl 0 rfl) ?_
  have e3 := (z9_f g hg).2.2.1
  have e4 := (z9_f g hg).2.2.2.1
  refine nv_kLXf (vx_runV (As := []) (rest := []) ⟨hx, hb, hml, hown, hts⟩ (c_X6_agreedShare l hl9 (A := cRg ADz 0 165) hGz hIz cRg_self h13z) (cwV 0 hts gL_law_X6_agreedShare rfl rfl rfl (by decide +kernel) ⟨Nat.le_of_ble_eq_true rfl, Nat.le_of_ble_eq_true rfl⟩) (nt_pVn hT hS hsz hPz (va_recv hT.1.1 hPz.1 (ci := 8) (q0 := 0) rfl rfl)) rfl rfl hl.1 rfl (lv_room (Nat.le_of_ble_eq_true rfl)) dL_law_1208 ⟨Nat.le_of_ble_eq_true rfl, Nat.le_of_ble_eq_true rfl⟩) hS hsz (fun E ce q9 H1 locs1 h0 hE hP1 hK1 hS1 hcell hv9 hcl => absurd (if_neg (by rw [(z9_f g hg).2.2.1]; decide)) h0) (fun H locs h0 hPz hK hS => ?_)
  have hPx := xV_keep hPx hK hzx
  rw [if_neg (show ¬ zT9 g 3 = 0 by rw [(z9_f g hg).2.2.1]; decide), (z9_f g hg).2.2.1, (z9_f g hg).2.2.2.1, zf_sh]
  refine lv_ldcf hx hb hown (hts (.constantFloat RL 230 1051372203) (List.mem_of_getElem? (i := 1420) (by decide +kernel))) dL_law_1211 ?_
  refine lv_fcmp hx hb dL_law_1213 ?_
  refine nv_to 0 (zf_c.1.trans nI_0.symm) ?_
  refine nv_if_ne (tgt := 1250) hx hb dL_law_1214 (by decide) (by omega) (fun c9 => absurd c9 (by decide)) (fun _ => ?_)
  refine lv_aload hx hb dL_law_1217 (lv_at hl 0 rfl) ?_
  refine nv_kLXd (vx_runV (As := []) (rest := []) ⟨hx, hb, hml, hown, hts⟩ (c_X6_meanKnocks l hl9 (A := cRg ADz 0 165) hGz hIz cRg_self ) (cwV 0 hts gL_law_X6_meanKnocks rfl rfl rfl (by decide +kernel) ⟨Nat.le_of_ble_eq_true rfl, Nat.le_of_ble_eq_true rfl⟩) (nt_pVn hT hS hsz hPz (va_recv hT.1.1 hPz.1 (ci := 8) (q0 := 0) rfl rfl)) rfl rfl hl.1 rfl (lv_room (Nat.le_of_ble_eq_true rfl)) dL_law_1219 ⟨Nat.le_of_ble_eq_true rfl, Nat.le_of_ble_eq_true rfl⟩) hS hsz (fun E ce q9 H1 locs1 h0 hE hP1 hK1 hS1 hcell hv9 hcl => absurd (if_neg (by rw [show zT9 g 0 = 2 from rfl]; decide)) h0) (fun H locs h0 hPz hK hS => ?_)
  have hPx := xV_keep hPx hK hzx
  rw [if_neg (show ¬ zT9 g 0 = 0 by rw [show zT9 g 0 = 2 from rfl]; decide), (z9_f g hg).2.2.1, show zT9 g 0 = 2 from rfl, zf_mk]
  refine lv_ldc2d hx hb hown (hts (.constantDouble RL 235 4613937818241073152) (List.mem_of_getElem? (i := 1421) (by decide +kernel))) dL_law_1222 ?_
  refine lv_dcmp hx hb dL_law_1225 ?_
  refine nv_to 0 (zf_c.2.trans nI_0.symm) ?_
  refine nv_if_ne (tgt := 1250) hx hb dL_law_1226 (by decide) (by omega) (fun c9 => absurd c9 (by decide)) (fun _ => ?_)
  refine lv_aload hx hb dL_law_1229 (lv_at hl 0 rfl) ?_
  refine lv_iconst (v := nI 0) hx hb dL_law_1231 (by decide) ?_
  refine lv_iconst (v := nI 0) hx hb dL_law_1232 (by decide) ?_
  refine nv_kLX (vx_runV (As := [.int (nI 0), .int (nI 0)]) (rest := []) ⟨hx, hb, hml, hown, hts⟩ (c_N6_ranked l hl9 (A := cRg ADz 0 165) hGz hIz cRg_self (nI 0) (nI 0)) (cwV 2 hts gL_law_X6_ranked rfl rfl rfl (by decide +kernel) ⟨Nat.le_of_ble_eq_true rfl, Nat.le_of_ble_eq_true rfl⟩) (nt_pVn hT hS hsz hPz (va_recv hT.1.1 hPz.1 (ci := 8) (q0 := 0) rfl rfl)) rfl rfl hl.1 rfl (lv_room (Nat.le_of_ble_eq_true rfl)) dL_law_1233 ⟨Nat.le_of_ble_eq_true rfl, Nat.le_of_ble_eq_true rfl⟩) hS hsz (fun E ce q9 H1 locs1 h0 hE hP1 hK1 hS1 hcell hv9 hcl => absurd (by rw [if_pos (show iR (nI 0) 2 by decide), if_pos (show tN (nI 0) = 0 by decide), (z9_w g hg).2.2]; exact if_pos (show 0 < zT9 g 0 from by rw [show zT9 g 0 = 2 from rfl]; decide)) h0) (fun H locs h0 hPz hK hS => ?_)
  refine nv_to 0 (by rw [if_pos (show iR (nI 0) 2 by decide), if_pos (show tN (nI 0) = 0 by decide), (z9_w g hg).2.2]; exact if_pos (show 0 < zT9 g 0 from by rw [show zT9 g 0 = 2 from rfl]; decide)) ?_
  have hPx := xV_keep hPx hK hzx
  refine nv_if_ne (tgt := 1250) hx hb dL_law_1236 (by decide) (by omega) (fun c9 => absurd c9 (by decide)) (fun _ => ?_)
  refine lv_aload hx hb dL_law_1239 (lv_at hl 0 rfl) ?_
  refine lv_bipush (v := nI 7) hx hb dL_law_1241 (by decide) ?_
  refine nv_kLX (vx_runV (As := [.int (nI 7)]) (rest := []) ⟨hx, hb, hml, hown, hts⟩ (c_X6_account l hl9 (A := cRg ADz 0 165) hGz hIz cRg_self (nI 7)) (cwV 1 hts gL_law_X6_account rfl rfl rfl (by decide +kernel) ⟨Nat.le_of_ble_eq_true rfl, Nat.le_of_ble_eq_true rfl⟩) (nt_pVn hT hS hsz hPz (va_recv hT.1.1 hPz.1 (ci := 8) (q0 := 0) rfl rfl)) rfl rfl hl.1 rfl (lv_room (Nat.le_of_ble_eq_true rfl)) dL_law_1243 ⟨Nat.le_of_ble_eq_true rfl, Nat.le_of_ble_eq_true rfl⟩) hS hsz (fun E ce q9 H1 locs1 h0 hE hP1 hK1 hS1 hcell hv9 hcl => absurd (if_pos (by decide)) h0) (fun H locs h0 hPz hK hS => ?_)
  refine nv_to 4 (by rw [if_pos (show iR (nI 7) 13 by decide), tN_nI (by decide)]; exact congrArg nI (z9_f g hg).2.2.2.2) ?_
  have hPx := xV_keep hPx hK hzx
  refine lv_iconst (v := nI 4) hx hb dL_law_1246 (by decide) ?_
  refine nv_icmp_eq (tgt := 1252) hx hb dL_law_1247 (by decide) (by omega) (by omega) (fun _ => ?_) (fun c9 => absurd rfl c9)
  refine W.widen (k := 2000 * 10) (n := 20000 * 10) (Nat.le_of_ble_eq_true rfl) (Nat.le_of_ble_eq_true rfl) ?_
  exact kz _ _ _ _ hFz H locs ls ⟨hPx, hPz⟩ hS hl
