set_option maxHeartbeats 4000000 in
set_option maxRecDepth 100000 in
theorem law_K {p0 : Program} {e0 : Env} {s : State} {m0 : MethodId} {below : List Frame} {meth : Method} {c0 : Code} {Q : State → Prop} {l : Launch} {b9 L : Nat} {xs : Nat → Int32} {D : va_G} {cI cC cD cR cB : ClassId} {sa : sA} (hC : lwC p0 l s m0 c0 b9 L xs D cI cC cD cR cB sa) {G : Nat → Nat} {ADx ADz : Nat → Nat} (hIx : cInj ADx) (hAx : ∀ i, i < 165 → s.heap.size ≤ ADx i) (hIz : cInj ADz) (hAz : ∀ i, i < 165 → s.heap.size ≤ ADz i) (hxz : ∀ i j, i < 165 → j < 165 → ADx i ≠ ADz j) (hzx : ∀ i j, i < 165 → j < 165 → ADz i ≠ ADx j) {g : Nat} (hg : g < 3) {Hz In Le : Nat → Nat} {cz : Nat} (hFz : lF 48 (zT9 g) qZ Hz In Le 0 cz 0 4 8) (kz : ∀ (H : Heap) (locs : List Loc) (ls : Array Slot), va_S (aN s.heap.size) s.heap H locs → W p0 l e0 room_1 s m0 #[Value.ref b9] below meth c0 H locs (2000 * 11) (20000 * 11) Q (F0 m0 1456 ls [.int (nI 1)])) : ∀ (H : Heap) (locs : List Loc) (ls : Array Slot), (xV D cI cC cD cR ADx 176 G H ∧ cW D cI cC cD cR ADz (zT9 g) qZ Hz In Le 0 cz 0 4 8 (-1) (-1) (nI 1) H) → va_S (aN s.heap.size) s.heap H locs → lv_has ls 13 [(12, .ref (ADz 0)), (11, .int (nI (gl g))), (10, .int (nI (gH g))), (9, .int (nI g)), (4, .int (stF G)), (3, .int (nI (G 0))), (1, .ref (ADx 0)), (0, .ref b9)] → W p0 l e0 room_1 s m0 #[Value.ref b9] below meth c0 H locs (2000 * 10) (20000 * 10) Q (F0 m0 1252 ls []) := by
  obtain ⟨hx, hb, hml, hown, hts, hl9, hXs, hbl, hL, hT, hX⟩ := id hC
  rintro H locs ls ⟨hPx, hPz⟩ hS hl
  have hsx : ∀ q, cRg ADx 0 165 q → aN s.heap.size q := cRg_A hAx (Nat.le_refl _)
  have hsz : ∀ q, cRg ADz 0 165 q → aN s.heap.size q := cRg_A hAz (Nat.le_refl _)
  refine lv_aload hx hb dL_law_1252 (lv_at hl 0 rfl) ?_
  refine lv_iconst (v := nI 0) hx hb dL_law_1254 (by decide) ?_
  obtain ⟨bqz, hGz, h25z, hbkz, hk5z, hchz, hHbz, hhsz, hSvbz, htyz, hIn7z, hlnz, hLez, hwyz⟩ := id hFz
  have hHwz : ∀ j, j < _ → hAt _ j 0 ≤ 8 ∧ hAt _ j 1 ≤ 6 ∧ hAt _ j 2 ≤ 5 := fun j hj => ⟨(hHbz j hj).2.2.1, (hHbz j hj).2.2.2.1, (hHbz j hj).2.2.2.2.1⟩
  have hbbz : bqz + 1 < 2 ^ 20 := by omega
  have hb32z : bqz + 32 < 2 ^ 20 := by omega
  have h13z : bqz < 8192 := by omega
  refine nv_kLX (vx_runV (As := [.int (nI 0)]) (rest := []) ⟨hx, hb, hml, hown, hts⟩ (c_X6_shut l hl9 (A := cRg ADz 0 165) hGz hIz cRg_self hchz hHwz h25z hbbz (nI 0)) (cwV 1 hts gL_law_X6_shut rfl rfl rfl (by decide +kernel) ⟨Nat.le_of_ble_eq_true rfl, Nat.le_of_ble_eq_true rfl⟩) (nt_pVn hT hS hsz hPz (va_recv hT.1.1 hPz.1 (ci := 8) (q0 := 0) rfl rfl)) rfl rfl hl.1 rfl (lv_room (Nat.le_of_ble_eq_true rfl)) dL_law_1255 ⟨Nat.le_of_ble_eq_true rfl, Nat.le_of_ble_eq_true rfl⟩) hS hsz (fun E ce q9 H1 locs1 h0 hE hP1 hK1 hS1 hcell hv9 hcl => absurd ((zs9 g hg).1) h0) (fun H locs h0 hPz hK hS => ?_)
  refine nv_to 1 (zs9 g hg).2.2.1 ?_
  have hPx := xV_keep hPx hK hzx
  obtain ⟨Hz, cz, hFz, hPz⟩ := zW_step (G2 := zT10 g) (k2 := 49) hFz (by decide) hPz (fun b9 h1 h2 h3 => vWf_vShut h1 h2 h3) (zs9 g hg).2.1 (zs9 g hg).2.2.2 rfl
  refine lv_iconst (v := nI 1) hx hb dL_law_1258 (by decide) ?_
  refine nv_icmp_ne (tgt := 1423) hx hb dL_law_1259 (by decide) (by omega) (by omega) (fun c9 => absurd rfl c9) (fun _ => ?_)
  refine lv_aload hx hb dL_law_1262 (lv_at hl 0 rfl) ?_
  refine lv_bipush (v := nI 7) hx hb dL_law_1264 (by decide) ?_
  refine lv_iconst (v := nI 0) hx hb dL_law_1266 (by decide) ?_
  refine lv_iconst (v := nI 0) hx hb dL_law_1267 (by decide) ?_
  refine lv_iconst (v := nI 0) hx hb dL_law_1268 (by decide) ?_
  refine lv_iconst (v := nI 0) hx hb dL_law_1269 (by decide) ?_
  refine lv_iconst (v := nI 0) hx hb dL_law_1270 (by decide) ?_
  refine nv_kN (vx_runSX (hh := [(0, 69, 150, 75), (70, 75, 150, 75), (76, 82, 150, 75), (83, 89, 150, 75), (90, 109, 150, 75), (110, 116, 150, 75), (117, 136, 150, 75), (137, 142, 150, 75), (143, 149, 150, 75), (0, 69, 155, 77), (70, 75, 155, 77), (76, 82, 155, 77), (83, 89, 155, 77), (90, 109, 155, 77), (110, 116, 155, 77), (117, 136, 155, 77), (137, 142, 155, 77), (143, 149, 155, 77), (0, 69, 160, 79), (70, 75, 160, 79), (76, 82, 160, 79), (83, 89, 160, 79), (90, 109, 160, 79), (110, 116, 160, 79), (117, 136, 160, 79), (137, 142, 160, 79), (143, 149, 160, 79)]) (As := [.ref (ADz 0), .int (nI 7), .int (nI 0), .int (nI 0), .int (nI 0), .int (nI 0), .int (nI 0)]) (rest := []) ⟨hx, hb, hml, hown, hts⟩ (c_L_act_shut l hl9 hIz hFz (by decide) (nI 0) (nI 0) (nI 0) (nI 0) (nI 0)) (vx_cwSW 7 hts gL_law_L_act rfl rfl rfl (by decide +kernel) ⟨Nat.le_of_ble_eq_true rfl, Nat.le_of_ble_eq_true rfl⟩) (nl_pS hT hX tx0 hS hsz hPz) rfl rfl hl.1 rfl (lv_room (Nat.le_of_ble_eq_true rfl)) dL_law_1271 ⟨Nat.le_of_ble_eq_true rfl, Nat.le_of_ble_eq_true rfl⟩) hS hsz (fun H locs hPz hK hS => ?_)
  have hPx := xV_keep hPx hK hzx
  refine nv_toi (-2) (by exact aR_ref (zr10 g hg).1 (by decide)) ?_
  obtain ⟨Hz, cz, hFz, hPz⟩ := zW_ref (w := 5) (d := nI 1) (k2 := 50) hFz (by decide) hPz (by rw [(zr10 g hg).1]; decide) (vShut_G (by rw [(zr10 g hg).1]; decide)).1 (zr10 g hg).2.1 (zr10 g hg).2.2 (by decide) (by decide) rfl
  refine lv_bipush (v := (-2)) hx hb dL_law_1274 (by decide) ?_
  refine lv_icmp_ne (tgt := 1423) hx hb dL_law_1276 (by decide) (fun c9 => absurd rfl c9) (fun _ => ?_)
  refine lv_aload hx hb dL_law_1279 (lv_at hl 0 rfl) ?_
  refine lv_iconst (v := nI 0) hx hb dL_law_1281 (by decide) ?_
  refine nv_kLX (vx_runV (As := [.int (nI 0)]) (rest := []) ⟨hx, hb, hml, hown, hts⟩ (c_X6_refusal l hl9 (A := cRg ADz 0 165) (b := 0) 0 (by decide) (by decide)) (cwV 1 hts gL_law_X6_refusal rfl rfl rfl (by decide +kernel) ⟨Nat.le_of_ble_eq_true rfl, Nat.le_of_ble_eq_true rfl⟩) (nt_pVn hT hS hsz hPz (va_recv hT.1.1 hPz.1 (ci := 8) (q0 := 0) rfl rfl)) rfl rfl hl.1 rfl (lv_room (Nat.le_of_ble_eq_true rfl)) dL_law_1282 ⟨Nat.le_of_ble_eq_true rfl, Nat.le_of_ble_eq_true rfl⟩) hS hsz (fun E ce q9 H1 locs1 h0 hE hP1 hK1 hS1 hcell hv9 hcl => absurd (if_neg (by decide)) h0) (fun H locs h0 hPz hK hS => ?_)
  refine nv_to 5 (by rw [if_neg (show ¬ (5 : Nat) = 0 by decide), if_pos rfl]) ?_
  have hPx := xV_keep hPx hK hzx
  refine lv_iconst (v := nI 5) hx hb dL_law_1285 (by decide) ?_
  refine nv_icmp_ne (tgt := 1423) hx hb dL_law_1286 (by decide) (by omega) (by omega) (fun c9 => absurd rfl c9) (fun _ => ?_)
  refine lv_aload hx hb dL_law_1289 (lv_at hl 0 rfl) ?_
  refine lv_iconst (v := nI 1) hx hb dL_law_1291 (by decide) ?_
  refine nv_kLX (vx_runV (As := [.int (nI 1)]) (rest := []) ⟨hx, hb, hml, hown, hts⟩ (c_X6_refusal l hl9 (A := cRg ADz 0 165) (b := 0) 1 (by decide) (by decide)) (cwV 1 hts gL_law_X6_refusal rfl rfl rfl (by decide +kernel) ⟨Nat.le_of_ble_eq_true rfl, Nat.le_of_ble_eq_true rfl⟩) (nt_pVn hT hS hsz hPz (va_recv hT.1.1 hPz.1 (ci := 8) (q0 := 0) rfl rfl)) rfl rfl hl.1 rfl (lv_room (Nat.le_of_ble_eq_true rfl)) dL_law_1292 ⟨Nat.le_of_ble_eq_true rfl, Nat.le_of_ble_eq_true rfl⟩) hS hsz (fun E ce q9 H1 locs1 h0 hE hP1 hK1 hS1 hcell hv9 hcl => absurd (if_neg (by decide)) h0) (fun H locs h0 hPz hK hS => ?_)
  refine nv_to 1 (by rw [if_neg (show ¬ (5 : Nat) = 0 by decide), if_neg (show ¬ (1 : Nat) = 0 by decide)]) ?_
  have hPx := xV_keep hPx hK hzx
  refine lv_iconst (v := nI 1) hx hb dL_law_1295 (by decide) ?_
  refine nv_icmp_ne (tgt := 1423) hx hb dL_law_1296 (by decide) (by omega) (by omega) (fun c9 => absurd rfl c9) (fun _ => ?_)
  refine lv_aload hx hb dL_law_1299 (lv_at hl 0 rfl) ?_
  refine lv_iconst (v := nI 0) hx hb dL_law_1301 (by decide) ?_
  refine lv_iconst (v := nI 0) hx hb dL_law_1302 (by decide) ?_
  obtain ⟨bqz, hGz, h25z, hbkz, hk5z, hchz, hHbz, hhsz, hSvbz, htyz, hIn7z, hlnz, hLez, hwyz⟩ := id hFz
  have hHwz : ∀ j, j < _ → hAt _ j 0 ≤ 8 ∧ hAt _ j 1 ≤ 6 ∧ hAt _ j 2 ≤ 5 := fun j hj => ⟨(hHbz j hj).2.2.1, (hHbz j hj).2.2.2.1, (hHbz j hj).2.2.2.2.1⟩
  have hbbz : bqz + 1 < 2 ^ 20 := by omega
  have hb32z : bqz + 32 < 2 ^ 20 := by omega
  have h13z : bqz < 8192 := by omega
  refine nv_kLX (vx_runV (As := [.int (nI 0), .int (nI 0)]) (rest := []) ⟨hx, hb, hml, hown, hts⟩ (c_X6_govern l hl9 (A := cRg ADz 0 165) hGz hIz cRg_self hchz hHwz h25z hbbz (nI 0) (nI 0)) (cwV 2 hts gL_law_X6_govern rfl rfl rfl (by decide +kernel) ⟨Nat.le_of_ble_eq_true rfl, Nat.le_of_ble_eq_true rfl⟩) (nt_pVn hT hS hsz hPz (va_recv hT.1.1 hPz.1 (ci := 8) (q0 := 0) rfl rfl)) rfl rfl hl.1 rfl (lv_room (Nat.le_of_ble_eq_true rfl)) dL_law_1303 ⟨Nat.le_of_ble_eq_true rfl, Nat.le_of_ble_eq_true rfl⟩) hS hsz (fun E ce q9 H1 locs1 h0 hE hP1 hK1 hS1 hcell hv9 hcl => absurd ((zs10 g hg).1) h0) (fun H locs h0 hPz hK hS => ?_)
  refine nv_to 3 (zs10 g hg).2.2.1 ?_
  have hPx := xV_keep hPx hK hzx
  obtain ⟨Hz, cz, hFz, hPz⟩ := zW_step (G2 := zT11 g) (k2 := 51) hFz (by decide) hPz (fun b9 h1 h2 h3 => vWf_vGovern h1 h2 h3) (zs10 g hg).2.1 (zs10 g hg).2.2.2 rfl
  refine lv_iconst (v := nI 3) hx hb dL_law_1306 (by decide) ?_
  refine nv_icmp_ne (tgt := 1423) hx hb dL_law_1307 (by decide) (by omega) (by omega) (fun c9 => absurd rfl c9) (fun _ => ?_)
  refine lv_aload hx hb dL_law_1310 (lv_at hl 0 rfl) ?_
  refine lv_iconst (v := nI 0) hx hb dL_law_1312 (by decide) ?_
  refine lv_iconst (v := nI 1) hx hb dL_law_1313 (by decide) ?_
  refine lv_iconst (v := nI 1) hx hb dL_law_1314 (by decide) ?_
  obtain ⟨bqz, hGz, h25z, hbkz, hk5z, hchz, hHbz, hhsz, hSvbz, htyz, hIn7z, hlnz, hLez, hwyz⟩ := id hFz
  have hHwz : ∀ j, j < _ → hAt _ j 0 ≤ 8 ∧ hAt _ j 1 ≤ 6 ∧ hAt _ j 2 ≤ 5 := fun j hj => ⟨(hHbz j hj).2.2.1, (hHbz j hj).2.2.2.1, (hHbz j hj).2.2.2.2.1⟩
  have hbbz : bqz + 1 < 2 ^ 20 := by omega
  have hb32z : bqz + 32 < 2 ^ 20 := by omega
  have h13z : bqz < 8192 := by omega
  refine nv_kLX (vx_runV (As := [.int (nI 0), .int (nI 1), .int (nI 1)]) (rest := []) ⟨hx, hb, hml, hown, hts⟩ (c_X6_areAlike l hl9 (A := cRg ADz 0 165) hGz hIz cRg_self (nI 0) (nI 1) 1 (by decide)) (cwV 3 hts gL_law_X6_areAlike rfl rfl rfl (by decide +kernel) ⟨Nat.le_of_ble_eq_true rfl, Nat.le_of_ble_eq_true rfl⟩) (nt_pVn hT hS hsz hPz (va_recv hT.1.1 hPz.1 (ci := 8) (q0 := 0) rfl rfl)) rfl rfl hl.1 rfl (lv_room (Nat.le_of_ble_eq_true rfl)) dL_law_1315 ⟨Nat.le_of_ble_eq_true rfl, Nat.le_of_ble_eq_true rfl⟩) hS hsz (fun E ce q9 H1 locs1 h0 hE hP1 hK1 hS1 hcell hv9 hcl => absurd (if_pos ⟨(show iR (nI 0) ((zT11 g) 0) from by rw [show (zT11 g) 0 = 2 from rfl]; decide), (show iR (nI 1) ((zT11 g) 0) from by rw [show (zT11 g) 0 = 2 from rfl]; decide)⟩) h0) (fun H locs h0 hPz hK hS => ?_)
  refine nv_to 1 (by rw [bI_t ⟨⟨(show iR (nI 0) ((zT11 g) 0) from by rw [show (zT11 g) 0 = 2 from rfl]; decide), (show iR (nI 1) ((zT11 g) 0) from by rw [show (zT11 g) 0 = 2 from rfl]; decide)⟩, by rw [tN_nI (k := 0) (by decide), tN_nI (k := 1) (by decide)]; exact (z11_f g hg).1⟩]) ?_
  have hPx := xV_keep hPx hK hzx
  refine nv_if_eq (tgt := 1423) hx hb dL_law_1318 (by decide) (by omega) (fun c9 => absurd c9 (by decide)) (fun _ => ?_)
  refine lv_aload hx hb dL_law_1321 (lv_at hl 0 rfl) ?_
  refine lv_iconst (v := nI 0) hx hb dL_law_1323 (by decide) ?_
  refine nv_kLX (vx_runV (As := [.int (nI 0)]) (rest := []) ⟨hx, hb, hml, hown, hts⟩ (c_X6_twins l hl9 (A := cRg ADz 0 165) hGz hIz cRg_self (nI 0)) (cwV 1 hts gL_law_X6_twins rfl rfl rfl (by decide +kernel) ⟨Nat.le_of_ble_eq_true rfl, Nat.le_of_ble_eq_true rfl⟩) (nt_pVn hT hS hsz hPz (va_recv hT.1.1 hPz.1 (ci := 8) (q0 := 0) rfl rfl)) rfl rfl hl.1 rfl (lv_room (Nat.le_of_ble_eq_true rfl)) dL_law_1324 ⟨Nat.le_of_ble_eq_true rfl, Nat.le_of_ble_eq_true rfl⟩) hS hsz (fun E ce q9 H1 locs1 h0 hE hP1 hK1 hS1 hcell hv9 hcl => absurd (if_pos (show iR (nI 0) ((zT11 g) 0) from by rw [show (zT11 g) 0 = 2 from rfl]; decide)) h0) (fun H locs h0 hPz hK hS => ?_)
  refine nv_to 3 (by rw [if_pos (show iR (nI 0) ((zT11 g) 0) from by rw [show (zT11 g) 0 = 2 from rfl]; decide), tN_nI (by decide), (z11_f g hg).2.1]) ?_
  have hPx := xV_keep hPx hK hzx
  refine lv_iconst (v := nI 3) hx hb dL_law_1327 (by decide) ?_
  refine nv_icmp_ne (tgt := 1423) hx hb dL_law_1328 (by decide) (by omega) (by omega) (fun c9 => absurd rfl c9) (fun _ => ?_)
  refine lv_aload hx hb dL_law_1331 (lv_at hl 0 rfl) ?_
  refine lv_iconst (v := nI 1) hx hb dL_law_1333 (by decide) ?_
  refine lv_iconst (v := (-1)) hx hb dL_law_1334 (by decide) ?_
  obtain ⟨bqz, hGz, h25z, hbkz, hk5z, hchz, hHbz, hhsz, hSvbz, htyz, hIn7z, hlnz, hLez, hwyz⟩ := id hFz
  have hHwz : ∀ j, j < _ → hAt _ j 0 ≤ 8 ∧ hAt _ j 1 ≤ 6 ∧ hAt _ j 2 ≤ 5 := fun j hj => ⟨(hHbz j hj).2.2.1, (hHbz j hj).2.2.2.1, (hHbz j hj).2.2.2.2.1⟩
  have hbbz : bqz + 1 < 2 ^ 20 := by omega
  have hb32z : bqz + 32 < 2 ^ 20 := by omega
  have h13z : bqz < 8192 := by omega
  refine nv_kLX (vx_runV (As := [.int (nI 1), .int (-1)]) (rest := []) ⟨hx, hb, hml, hown, hts⟩ (c_X6_set l hl9 (A := cRg ADz 0 165) hGz hIz cRg_self hchz hHwz h25z hbbz (nI 1) (-1)) (cwV 2 hts gL_law_X6_set rfl rfl rfl (by decide +kernel) ⟨Nat.le_of_ble_eq_true rfl, Nat.le_of_ble_eq_true rfl⟩) (nt_pVn hT hS hsz hPz (va_recv hT.1.1 hPz.1 (ci := 8) (q0 := 0) rfl rfl)) rfl rfl hl.1 rfl (lv_room (Nat.le_of_ble_eq_true rfl)) dL_law_1335 ⟨Nat.le_of_ble_eq_true rfl, Nat.le_of_ble_eq_true rfl⟩) hS hsz (fun E ce q9 H1 locs1 h0 hE hP1 hK1 hS1 hcell hv9 hcl => absurd ((zs11 g hg).1) h0) (fun H locs h0 hPz hK hS => ?_)
  refine nv_to 0 (zs11 g hg).2.2.1 ?_
  have hPx := xV_keep hPx hK hzx
  obtain ⟨Hz, cz, hFz, hPz⟩ := zW_step (G2 := zT12 g) (k2 := 52) hFz (by decide) hPz (fun b9 h1 h2 h3 => vWf_vSet h1 h2 h3) (zs11 g hg).2.1 (zs11 g hg).2.2.2 rfl
  refine nv_if_ne (tgt := 1423) hx hb dL_law_1338 (by decide) (by omega) (fun c9 => absurd c9 (by decide)) (fun _ => ?_)
  refine lv_aload hx hb dL_law_1341 (lv_at hl 0 rfl) ?_
  refine lv_iconst (v := nI 3) hx hb dL_law_1343 (by decide) ?_
  refine lv_iconst (v := nI 1) hx hb dL_law_1344 (by decide) ?_
  refine lv_iconst (v := (-1)) hx hb dL_law_1345 (by decide) ?_
  refine lv_iconst (v := nI 0) hx hb dL_law_1346 (by decide) ?_
  refine lv_iconst (v := nI 0) hx hb dL_law_1347 (by decide) ?_
  refine lv_iconst (v := nI 0) hx hb dL_law_1348 (by decide) ?_
  refine nv_kN (vx_runSX (hh := [(0, 69, 150, 75), (70, 75, 150, 75), (76, 82, 150, 75), (83, 89, 150, 75), (90, 109, 150, 75), (110, 116, 150, 75), (117, 136, 150, 75), (137, 142, 150, 75), (143, 149, 150, 75), (0, 69, 155, 77), (70, 75, 155, 77), (76, 82, 155, 77), (83, 89, 155, 77), (90, 109, 155, 77), (110, 116, 155, 77), (117, 136, 155, 77), (137, 142, 155, 77), (143, 149, 155, 77), (0, 69, 160, 79), (70, 75, 160, 79), (76, 82, 160, 79), (83, 89, 160, 79), (90, 109, 160, 79), (110, 116, 160, 79), (117, 136, 160, 79), (137, 142, 160, 79), (143, 149, 160, 79)]) (As := [.ref (ADz 0), .int (nI 3), .int (nI 1), .int (-1), .int (nI 0), .int (nI 0), .int (nI 0)]) (rest := []) ⟨hx, hb, hml, hown, hts⟩ (c_L_act_set l hl9 hIz hFz (by decide) (nI 1) (-1) (nI 0) (nI 0) (nI 0)) (vx_cwSW 7 hts gL_law_L_act rfl rfl rfl (by decide +kernel) ⟨Nat.le_of_ble_eq_true rfl, Nat.le_of_ble_eq_true rfl⟩) (nl_pS hT hX tx0 hS hsz hPz) rfl rfl hl.1 rfl (lv_room (Nat.le_of_ble_eq_true rfl)) dL_law_1349 ⟨Nat.le_of_ble_eq_true rfl, Nat.le_of_ble_eq_true rfl⟩) hS hsz (fun H locs hPz hK hS => ?_)
  have hPx := xV_keep hPx hK hzx
  refine nv_toi (-2) (by exact aR_ref (zr12 g hg).1 (by decide)) ?_
  obtain ⟨Hz, cz, hFz, hPz⟩ := zW_ref (w := 2) (d := -1) (k2 := 53) hFz (by decide) hPz (by rw [(zr12 g hg).1]; decide) (vSet_G (by rw [(zr12 g hg).1]; decide)).1 (zr12 g hg).2.1 (zr12 g hg).2.2 (by decide) (by decide) rfl
  refine lv_bipush (v := (-2)) hx hb dL_law_1352 (by decide) ?_
  refine lv_icmp_ne (tgt := 1423) hx hb dL_law_1354 (by decide) (fun c9 => absurd rfl c9) (fun _ => ?_)
  refine lv_aload hx hb dL_law_1357 (lv_at hl 0 rfl) ?_
  refine lv_iconst (v := nI 1) hx hb dL_law_1359 (by decide) ?_
  refine nv_kLX (vx_runV (As := [.int (nI 1)]) (rest := []) ⟨hx, hb, hml, hown, hts⟩ (c_X6_refusal l hl9 (A := cRg ADz 0 165) (b := 0) 1 (by decide) (by decide)) (cwV 1 hts gL_law_X6_refusal rfl rfl rfl (by decide +kernel) ⟨Nat.le_of_ble_eq_true rfl, Nat.le_of_ble_eq_true rfl⟩) (nt_pVn hT hS hsz hPz (va_recv hT.1.1 hPz.1 (ci := 8) (q0 := 0) rfl rfl)) rfl rfl hl.1 rfl (lv_room (Nat.le_of_ble_eq_true rfl)) dL_law_1360 ⟨Nat.le_of_ble_eq_true rfl, Nat.le_of_ble_eq_true rfl⟩) hS hsz (fun E ce q9 H1 locs1 h0 hE hP1 hK1 hS1 hcell hv9 hcl => absurd (if_neg (by decide)) h0) (fun H locs h0 hPz hK hS => ?_)
  refine nv_toi (-1) (by rw [if_neg (show ¬ (2 : Nat) = 0 by decide), if_neg (show ¬ (1 : Nat) = 0 by decide)]) ?_
  have hPx := xV_keep hPx hK hzx
  refine lv_iconst (v := (-1)) hx hb dL_law_1363 (by decide) ?_
  refine lv_icmp_ne (tgt := 1423) hx hb dL_law_1364 (by decide) (fun c9 => absurd rfl c9) (fun _ => ?_)
  refine lv_aload hx hb dL_law_1367 (lv_at hl 0 rfl) ?_
  obtain ⟨bqz, hGz, h25z, hbkz, hk5z, hchz, hHbz, hhsz, hSvbz, htyz, hIn7z, hlnz, hLez, hwyz⟩ := id hFz
  have hHwz : ∀ j, j < _ → hAt _ j 0 ≤ 8 ∧ hAt _ j 1 ≤ 6 ∧ hAt _ j 2 ≤ 5 := fun j hj => ⟨(hHbz j hj).2.2.1, (hHbz j hj).2.2.2.1, (hHbz j hj).2.2.2.2.1⟩
  have hbbz : bqz + 1 < 2 ^ 20 := by omega
  have hb32z : bqz + 32 < 2 ^ 20 := by omega
  have h13z : bqz < 8192 := by omega
  refine nv_kG (va_runV (As := []) (rest := []) ⟨hx, hb, hml, hown, hts⟩ (c_X6_snapshot l (A := cRg ADz 0 165) hGz hIz cRg_self) (cwV 0 hts gL_law_X6_snapshot rfl rfl rfl (by decide +kernel) ⟨Nat.le_of_ble_eq_true rfl, Nat.le_of_ble_eq_true rfl⟩) (nt_pVn hT hS hsz hPz (va_recv hT.1.1 hPz.1 (ci := 8) (q0 := 0) rfl rfl)) rfl rfl hl.1 rfl (lv_room (Nat.le_of_ble_eq_true rfl)) dL_law_1369 ⟨Nat.le_of_ble_eq_true rfl, Nat.le_of_ble_eq_true rfl⟩) hS hsz (fun H locs hPz hK hS => ?_)
  have hPx := xV_keep hPx hK hzx
  refine nv_to 2 rfl ?_
  have hPz : cW D cI cC cD cR ADz (zT12 g) (zT12 g) Hz In Le 1 cz 0 2 8 (-1) (-1) (-1) H := hPz
  have hFz : lF 54 (zT12 g) (zT12 g) Hz In Le 1 cz 0 2 8 := hFz.snapshot (by decide)
  refine lv_iconst (v := nI 2) hx hb dL_law_1372 (by decide) ?_
  refine nv_icmp_ne (tgt := 1423) hx hb dL_law_1373 (by decide) (by omega) (by omega) (fun c9 => absurd rfl c9) (fun _ => ?_)
  refine lv_aload hx hb dL_law_1376 (lv_at hl 0 rfl) ?_
  obtain ⟨bqz, hGz, h25z, hbkz, hk5z, hchz, hHbz, hhsz, hSvbz, htyz, hIn7z, hlnz, hLez, hwyz⟩ := id hFz
  have hHwz : ∀ j, j < _ → hAt _ j 0 ≤ 8 ∧ hAt _ j 1 ≤ 6 ∧ hAt _ j 2 ≤ 5 := fun j hj => ⟨(hHbz j hj).2.2.1, (hHbz j hj).2.2.2.1, (hHbz j hj).2.2.2.2.1⟩
  have hbbz : bqz + 1 < 2 ^ 20 := by omega
  have hb32z : bqz + 32 < 2 ^ 20 := by omega
  have h13z : bqz < 8192 := by omega
  refine nv_kG (va_runV (As := []) (rest := []) ⟨hx, hb, hml, hown, hts⟩ (c_X6_clear l (A := cRg ADz 0 165) hGz hIz cRg_self) (cwV 0 hts gL_law_X6_clear rfl rfl rfl (by decide +kernel) ⟨Nat.le_of_ble_eq_true rfl, Nat.le_of_ble_eq_true rfl⟩) (nt_pVn hT hS hsz hPz (va_recv hT.1.1 hPz.1 (ci := 8) (q0 := 0) rfl rfl)) rfl rfl hl.1 rfl (lv_room (Nat.le_of_ble_eq_true rfl)) dL_law_1378 ⟨Nat.le_of_ble_eq_true rfl, Nat.le_of_ble_eq_true rfl⟩) hS hsz (fun H locs hPz hK hS => ?_)
  have hPx := xV_keep hPx hK hzx
  refine nv_to 2 rfl ?_
  have hPz : cW D cI cC cD cR ADz gNew (zT12 g) Hz In Le 1 0 0 2 8 (-1) (-1) (-1) H := hPz
  have hFz : lF 55 gNew (zT12 g) Hz In Le 1 0 0 2 8 := hFz.clear (by decide)
  refine lv_iconst (v := nI 2) hx hb dL_law_1381 (by decide) ?_
  refine nv_icmp_ne (tgt := 1423) hx hb dL_law_1382 (by decide) (by omega) (by omega) (fun c9 => absurd rfl c9) (fun _ => ?_)
  refine lv_aload hx hb dL_law_1385 (lv_at hl 0 rfl) ?_
  refine lv_iconst (v := nI 0) hx hb dL_law_1387 (by decide) ?_
  obtain ⟨bqz, hGz, h25z, hbkz, hk5z, hchz, hHbz, hhsz, hSvbz, htyz, hIn7z, hlnz, hLez, hwyz⟩ := id hFz
  have hHwz : ∀ j, j < _ → hAt _ j 0 ≤ 8 ∧ hAt _ j 1 ≤ 6 ∧ hAt _ j 2 ≤ 5 := fun j hj => ⟨(hHbz j hj).2.2.1, (hHbz j hj).2.2.2.1, (hHbz j hj).2.2.2.2.1⟩
  have hbbz : bqz + 1 < 2 ^ 20 := by omega
  have hb32z : bqz + 32 < 2 ^ 20 := by omega
  have h13z : bqz < 8192 := by omega
  refine nv_kLX (vx_runV (As := [.int (nI 0)]) (rest := []) ⟨hx, hb, hml, hown, hts⟩ (c_X6_account l hl9 (A := cRg ADz 0 165) hGz hIz cRg_self (nI 0)) (cwV 1 hts gL_law_X6_account rfl rfl rfl (by decide +kernel) ⟨Nat.le_of_ble_eq_true rfl, Nat.le_of_ble_eq_true rfl⟩) (nt_pVn hT hS hsz hPz (va_recv hT.1.1 hPz.1 (ci := 8) (q0 := 0) rfl rfl)) rfl rfl hl.1 rfl (lv_room (Nat.le_of_ble_eq_true rfl)) dL_law_1388 ⟨Nat.le_of_ble_eq_true rfl, Nat.le_of_ble_eq_true rfl⟩) hS hsz (fun E ce q9 H1 locs1 h0 hE hP1 hK1 hS1 hcell hv9 hcl => absurd (if_pos (by decide)) h0) (fun H locs h0 hPz hK hS => ?_)
  refine nv_to 0 (by rw [if_pos (show iR (nI 0) 13 by decide), tN_nI (by decide)]; exact congrArg nI (show gNew 0 = 0 from by decide)) ?_
  have hPx := xV_keep hPx hK hzx
  refine nv_if_ne (tgt := 1423) hx hb dL_law_1391 (by decide) (by omega) (fun c9 => absurd c9 (by decide)) (fun _ => ?_)
  refine lv_aload hx hb dL_law_1394 (lv_at hl 0 rfl) ?_
  refine lv_bipush (v := nI 12) hx hb dL_law_1396 (by decide) ?_
  refine nv_kLX (vx_runV (As := [.int (nI 12)]) (rest := []) ⟨hx, hb, hml, hown, hts⟩ (c_X6_account l hl9 (A := cRg ADz 0 165) hGz hIz cRg_self (nI 12)) (cwV 1 hts gL_law_X6_account rfl rfl rfl (by decide +kernel) ⟨Nat.le_of_ble_eq_true rfl, Nat.le_of_ble_eq_true rfl⟩) (nt_pVn hT hS hsz hPz (va_recv hT.1.1 hPz.1 (ci := 8) (q0 := 0) rfl rfl)) rfl rfl hl.1 rfl (lv_room (Nat.le_of_ble_eq_true rfl)) dL_law_1398 ⟨Nat.le_of_ble_eq_true rfl, Nat.le_of_ble_eq_true rfl⟩) hS hsz (fun E ce q9 H1 locs1 h0 hE hP1 hK1 hS1 hcell hv9 hcl => absurd (if_pos (by decide)) h0) (fun H locs h0 hPz hK hS => ?_)
  refine nv_to 0 (by rw [if_pos (show iR (nI 12) 13 by decide), tN_nI (by decide)]; exact congrArg nI (show qAcc gNew 0 0 12 = 0 from rfl)) ?_
  have hPx := xV_keep hPx hK hzx
  refine nv_if_ne (tgt := 1423) hx hb dL_law_1401 (by decide) (by omega) (fun c9 => absurd c9 (by decide)) (fun _ => ?_)
  refine lv_aload hx hb dL_law_1404 (lv_at hl 0 rfl) ?_
  refine nv_kLX (vx_runV (As := []) (rest := []) ⟨hx, hb, hml, hown, hts⟩ (c_X6_restore l hl9 (A := cRg ADz 0 165) hGz hIz cRg_self (by decide) (fun q => ⟨(hSvbz q).2.2.1, (hSvbz q).2.2.2.1, (hSvbz q).2.2.2.2.1⟩)) (cwV 0 hts gL_law_X6_restore rfl rfl rfl (by decide +kernel) ⟨Nat.le_of_ble_eq_true rfl, Nat.le_of_ble_eq_true rfl⟩) (nt_pVn hT hS hsz hPz (va_recv hT.1.1 hPz.1 (ci := 8) (q0 := 0) rfl rfl)) rfl rfl hl.1 rfl (lv_room (Nat.le_of_ble_eq_true rfl)) dL_law_1406 ⟨Nat.le_of_ble_eq_true rfl, Nat.le_of_ble_eq_true rfl⟩) hS hsz (fun E ce q9 H1 locs1 h0 hE hP1 hK1 hS1 hcell hv9 hcl => absurd (if_neg (by decide)) h0) (fun H locs h0 hPz hK hS => ?_)
  refine nv_to 2 (congrArg nI ((if_neg (by decide)).trans (show zT12 g 0 = 2 from rfl))) ?_
  have hPx := xV_keep hPx hK hzx
  have hFz := hFz.restore (by decide)
  simp only [if_neg (show ¬ (1 : Nat) = 0 by decide)] at hPz hFz
  have hPz : cW D cI cC cD cR ADz (zT12 g) (zT12 g) Hz In Le 1 0 0 2 8 (-1) (-1) (-1) H := hPz
  have hFz : lF 56 (zT12 g) (zT12 g) Hz In Le 1 0 0 2 8 := hFz
  refine lv_iconst (v := nI 2) hx hb dL_law_1409 (by decide) ?_
  refine nv_icmp_ne (tgt := 1423) hx hb dL_law_1410 (by decide) (by omega) (by omega) (fun c9 => absurd rfl c9) (fun _ => ?_)
  refine lv_aload hx hb dL_law_1413 (lv_at hl 0 rfl) ?_
  refine lv_iconst (v := nI 2) hx hb dL_law_1415 (by decide) ?_
  obtain ⟨bqz, hGz, h25z, hbkz, hk5z, hchz, hHbz, hhsz, hSvbz, htyz, hIn7z, hlnz, hLez, hwyz⟩ := id hFz
  have hHwz : ∀ j, j < _ → hAt _ j 0 ≤ 8 ∧ hAt _ j 1 ≤ 6 ∧ hAt _ j 2 ≤ 5 := fun j hj => ⟨(hHbz j hj).2.2.1, (hHbz j hj).2.2.2.1, (hHbz j hj).2.2.2.2.1⟩
  have hbbz : bqz + 1 < 2 ^ 20 := by omega
  have hb32z : bqz + 32 < 2 ^ 20 := by omega
  have h13z : bqz < 8192 := by omega
  refine nv_kLX (vx_runV (As := [.int (nI 2)]) (rest := []) ⟨hx, hb, hml, hown, hts⟩ (c_X6_account l hl9 (A := cRg ADz 0 165) hGz hIz cRg_self (nI 2)) (cwV 1 hts gL_law_X6_account rfl rfl rfl (by decide +kernel) ⟨Nat.le_of_ble_eq_true rfl, Nat.le_of_ble_eq_true rfl⟩) (nt_pVn hT hS hsz hPz (va_recv hT.1.1 hPz.1 (ci := 8) (q0 := 0) rfl rfl)) rfl rfl hl.1 rfl (lv_room (Nat.le_of_ble_eq_true rfl)) dL_law_1416 ⟨Nat.le_of_ble_eq_true rfl, Nat.le_of_ble_eq_true rfl⟩) hS hsz (fun E ce q9 H1 locs1 h0 hE hP1 hK1 hS1 hcell hv9 hcl => absurd (if_pos (by decide)) h0) (fun H locs h0 hPz hK hS => ?_)
  refine nv_to 2 (by rw [if_pos (show iR (nI 2) 13 by decide), tN_nI (by decide)]; exact congrArg nI (z12_f g hg).2) ?_
  have hPx := xV_keep hPx hK hzx
  refine lv_iconst (v := nI 2) hx hb dL_law_1419 (by decide) ?_
  refine nv_icmp_eq (tgt := 1425) hx hb dL_law_1420 (by decide) (by omega) (by omega) (fun _ => ?_) (fun c9 => absurd rfl c9)
  refine lv_aload_n hx hb dL_law_1425 rfl (lv_at hl 6 rfl) ?_
  obtain ⟨Hx, Ix, cx, wx, ex, rx, dx, hFx, hPx⟩ := hPx
  obtain ⟨bqx, hGx, h25x, hbkx, hk5x, hchx, hHbx, hhsx, hSvbx, htyx, hIn7x, hlnx, hLex, hwyx⟩ := id hFx
  have hHwx : ∀ j, j < _ → hAt _ j 0 ≤ 8 ∧ hAt _ j 1 ≤ 6 ∧ hAt _ j 2 ≤ 5 := fun j hj => ⟨(hHbx j hj).2.2.1, (hHbx j hj).2.2.2.1, (hHbx j hj).2.2.2.2.1⟩
  have hbbx : bqx + 1 < 2 ^ 20 := by omega
  have hb32x : bqx + 32 < 2 ^ 20 := by omega
  have h13x : bqx < 8192 := by omega
  have g0 := hGx.2.2.1
  refine nv_kLX (vx_runV (As := []) (rest := []) ⟨hx, hb, hml, hown, hts⟩ (c_X6_restore l hl9 (A := cRg ADx 0 165) hGx hIx cRg_self (by decide) (fun q => ⟨(hSvbx q).2.2.1, (hSvbx q).2.2.2.1, (hSvbx q).2.2.2.2.1⟩)) (cwV 0 hts gL_law_X6_restore rfl rfl rfl (by decide +kernel) ⟨Nat.le_of_ble_eq_true rfl, Nat.le_of_ble_eq_true rfl⟩) (nt_pVn hT hS hsx hPx (va_recv hT.1.1 hPx.1 (ci := 8) (q0 := 0) rfl rfl)) rfl rfl hl.1 rfl (lv_room (Nat.le_of_ble_eq_true rfl)) dL_law_1426 ⟨Nat.le_of_ble_eq_true rfl, Nat.le_of_ble_eq_true rfl⟩) hS hsx (fun E ce q9 H1 locs1 h0 hE hP1 hK1 hS1 hcell hv9 hcl => absurd (if_neg (by decide)) h0) (fun H locs h0 hPx hK hS => ?_)
  refine nv_to (G 0) (congrArg nI (if_neg (by decide))) ?_
  have hFx := hFx.restore (by decide)
  simp only [if_neg (show ¬ (1 : Nat) = 0 by decide)] at hPx hFx
  obtain ⟨bqx, hGx, h25x, hbkx, hk5x, hchx, hHbx, hhsx, hSvbx, htyx, hIn7x, hlnx, hLex, hwyx⟩ := id hFx
  have hHwx : ∀ j, j < _ → hAt _ j 0 ≤ 8 ∧ hAt _ j 1 ≤ 6 ∧ hAt _ j 2 ≤ 5 := fun j hj => ⟨(hHbx j hj).2.2.1, (hHbx j hj).2.2.2.1, (hHbx j hj).2.2.2.2.1⟩
  have hbbx : bqx + 1 < 2 ^ 20 := by omega
  have hb32x : bqx + 32 < 2 ^ 20 := by omega
  have h13x : bqx < 8192 := by omega
  refine lv_iload_n hx hb dL_law_1429 rfl (lv_at hl 5 rfl) ?_
  refine nv_icmp_ne (tgt := 1455) hx hb dL_law_1430 (by decide) (by omega) (by omega) (fun c9 => absurd rfl c9) (fun _ => ?_)
  refine lv_aload_n hx hb dL_law_1433 rfl (lv_at hl 6 rfl) ?_
  refine lv_bipush (v := nI 12) hx hb dL_law_1434 (by decide) ?_
  refine nv_kLX (vx_runV (As := [.int (nI 12)]) (rest := []) ⟨hx, hb, hml, hown, hts⟩ (c_X6_account l hl9 (A := cRg ADx 0 165) hGx hIx cRg_self (nI 12)) (cwV 1 hts gL_law_X6_account rfl rfl rfl (by decide +kernel) ⟨Nat.le_of_ble_eq_true rfl, Nat.le_of_ble_eq_true rfl⟩) (nt_pVn hT hS hsx hPx (va_recv hT.1.1 hPx.1 (ci := 8) (q0 := 0) rfl rfl)) rfl rfl hl.1 rfl (lv_room (Nat.le_of_ble_eq_true rfl)) dL_law_1436 ⟨Nat.le_of_ble_eq_true rfl, Nat.le_of_ble_eq_true rfl⟩) hS hsx (fun E ce q9 H1 locs1 h0 hE hP1 hK1 hS1 hcell hv9 hcl => absurd (if_pos (by decide)) h0) (fun H locs h0 hPx hK hS => ?_)
  refine nv_to 0 (by rw [if_pos (show iR (nI 12) 13 by decide), tN_nI (by decide)]; rfl) ?_
  refine nv_if_ne (tgt := 1455) hx hb dL_law_1439 (by decide) (by omega) (fun c9 => absurd c9 (by decide)) (fun _ => ?_)
  refine lv_aload_n hx hb dL_law_1442 rfl (lv_at hl 6 rfl) ?_
  refine nv_kN (vx_runS (As := [.ref (ADx 0)]) (rest := []) ⟨hx, hb, hml, hown, hts⟩ (c_L_state l hl9 hIx hFx) (va_cwS 1 hts gL_law_L_state rfl rfl rfl (by decide +kernel) ⟨Nat.le_of_ble_eq_true rfl, Nat.le_of_ble_eq_true rfl⟩) (nl_pS hT hX tx0 hS hsx hPx) rfl rfl hl.1 rfl (lv_room (Nat.le_of_ble_eq_true rfl)) dL_law_1443 ⟨Nat.le_of_ble_eq_true rfl, Nat.le_of_ble_eq_true rfl⟩) hS hsx (fun H locs hPx hK hS => ?_)
  refine lv_iload hx hb dL_law_1446 (lv_at hl 4 rfl) ?_
  refine lv_icmp_ne (tgt := 1455) hx hb dL_law_1448 (by decide) (fun c9 => absurd rfl c9) (fun _ => ?_)
  refine lv_iconst (v := nI 1) hx hb dL_law_1451 (by decide) ?_
  refine lv_goto (tgt := 1456) hx hb dL_law_1452 (by decide) ?_
  refine W.widen (k := 2000 * 11) (n := 20000 * 11) (Nat.le_of_ble_eq_true rfl) (Nat.le_of_ble_eq_true rfl) ?_
  exact kz H locs ls hS
