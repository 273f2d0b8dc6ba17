set_option maxHeartbeats 4000000 in
set_option maxRecDepth 100000 in
theorem law_C {p0 : Program} {e0 : Env} {s : State} {m0 : MethodId} {below : List Frame} {meth : Method} {c0 : Code} {Q : State → Prop} {l : Launch} {b9 L : Nat} {xs : Nat → Int32} {D : va_G} {cI cC cD cR cB : ClassId} {sa : sA} (hC : lwC p0 l s m0 c0 b9 L xs D cI cC cD cR cB sa) {G Hi : Nat → Nat} {ch wy w : Nat} {wd : Int32} {ADx ADy : Nat → Nat} (hIx : cInj ADx) (hAx : ∀ i, i < 165 → s.heap.size ≤ ADx i) (hIy : cInj ADy) (hAy : ∀ i, i < 165 → s.heap.size ≤ ADy i) (hxy : ∀ i j, i < 165 → j < 165 → ADx i ≠ ADy j) (hyx : ∀ i j, i < 165 → j < 165 → ADy i ≠ ADx j) (hw : G 11 = w) (h26 : w < 26) (hch : ch ≤ 8) (hFx : lF 146 G G (hPush Hi G ch) (wrL (T2 (oW w) w) qZ 0) qZ 1 (cU ch) 0 wy 0) (hFy : lF 129 G qZ (hPush (hPush Hi G ch) (va_up G 11 (oW w)) (cU ch)) qZ qZ 0 (cU (cU ch)) 0 wy 0) (kz : ∀ (Hi In : Nat → Nat) (ch : Nat), lF 147 G G Hi In qZ 1 ch 0 wy 0 → ∀ (H : Heap) (locs : List Loc) (ls : Array Slot), cW D cI cC cD cR ADx G G Hi In qZ 1 ch 0 wy 0 (-1) (-1) wd H → va_S (aN s.heap.size) s.heap H locs → lv_has ls 13 [(6, .int (nI (97 + oW w))), (5, .int (nI (97 + w))), (4, .int (stF G)), (3, .int (nI (G 0))), (2, .ref (ADy 0)), (1, .ref (ADx 0)), (0, .ref b9)] → W p0 l e0 room_1 s m0 #[Value.ref b9] below meth c0 H locs (2000 * 3) (20000 * 3) Q (F0 m0 203 ls [])) : ∀ (H : Heap) (locs : List Loc) (ls : Array Slot), (cW D cI cC cD cR ADx G G (hPush Hi G ch) (wrL (T2 (oW w) w) qZ 0) qZ 1 (cU ch) 0 wy 0 (-1) (-1) wd H ∧ cW D cI cC cD cR ADy G qZ (hPush (hPush Hi G ch) (va_up G 11 (oW w)) (cU ch)) qZ qZ 0 (cU (cU ch)) 0 wy 0 (-1) (-1) wd H) → va_S (aN s.heap.size) s.heap H locs → lv_has ls 13 [(7, .int (nI (cU ch))), (6, .int (nI (97 + oW w))), (5, .int (nI (97 + w))), (4, .int (stF G)), (3, .int (nI (G 0))), (2, .ref (ADy 0)), (1, .ref (ADx 0)), (0, .ref b9)] → W p0 l e0 room_1 s m0 #[Value.ref b9] below meth c0 H locs (2000 * 2) (20000 * 2) Q (F0 m0 158 ls []) := by
  obtain ⟨hx, hb, hml, hown, hts, hl9, hXs, hbl, hL, hT, hX⟩ := id hC
  rintro H locs ls ⟨hPx, hPy⟩ hS hl
  have hsx : ∀ q, cRg ADx 0 165 q → aN s.heap.size q := cRg_A hAx (Nat.le_refl _)
  have hsy : ∀ q, cRg ADy 0 165 q → aN s.heap.size q := cRg_A hAy (Nat.le_refl _)
  have how := oW_lt w
  obtain ⟨bqx, hGx, h25x, hbkx, hk5x, hchx, hHbx, hhsx, hSvbx, htyx, hIn7x, hlnx, hLex, hwyx⟩ := id hFx
  have hHwx : ∀ j, j < _ → hAt _ j 0 ≤ 8 ∧ hAt _ j 1 ≤ 6 ∧ hAt _ j 2 ≤ 5 := fun j hj => ⟨(hHbx j hj).2.2.1, (hHbx j hj).2.2.2.1, (hHbx j hj).2.2.2.2.1⟩
  have hbbx : bqx + 1 < 2 ^ 20 := by omega
  have hb32x : bqx + 32 < 2 ^ 20 := by omega
  have h13x : bqx < 8192 := by omega
  obtain ⟨bqy, hGy, h25y, hbky, hk5y, hchy, hHby, hhsy, hSvby, htyy, hIn7y, hlny, hLey, hwyy⟩ := id hFy
  have hHwy : ∀ j, j < _ → hAt _ j 0 ≤ 8 ∧ hAt _ j 1 ≤ 6 ∧ hAt _ j 2 ≤ 5 := fun j hj => ⟨(hHby j hj).2.2.1, (hHby j hj).2.2.2.1, (hHby j hj).2.2.2.2.1⟩
  have hbby : bqy + 1 < 2 ^ 20 := by omega
  have hb32y : bqy + 32 < 2 ^ 20 := by omega
  have h13y : bqy < 8192 := by omega
  have hc8 : ch ≤ 8 := hch
  have hcu := cU_le hc8
  have hc3 := un_3 hc8
  refine lv_aload_n hx hb dL_law_158 rfl (lv_at hl 6 rfl) ?_
  refine nv_kLX (vx_runV (As := []) (rest := []) ⟨hx, hb, hml, hown, hts⟩ (c_X6_undo l hl9 (A := cRg ADx 0 165) hGx hIx cRg_self hchx hHwx) (cwV 0 hts gL_law_X6_undo rfl rfl rfl (by decide +kernel) ⟨Nat.le_of_ble_eq_true rfl, Nat.le_of_ble_eq_true rfl⟩) (nt_pVn hT hS hsx hPx (va_recv hT.1.1 hPx.1 (ci := 8) (q0 := 0) rfl rfl)) rfl rfl hl.1 rfl (lv_room (Nat.le_of_ble_eq_true rfl)) dL_law_159 ⟨Nat.le_of_ble_eq_true rfl, Nat.le_of_ble_eq_true rfl⟩) hS hsx (fun E ce q9 H1 locs1 h0 hE hP1 hK1 hS1 hcell hv9 hcl => absurd (if_neg (by omega)) h0) (fun H locs h0 hPx hK hS => ?_)
  have hPy := cW_keep hPy hK hxy
  obtain ⟨hFx, hPx⟩ := undo_c (F := G) (by omega) (fun j hj => un_1 hj) hFx (by decide) hPx
  refine lv_iload hx hb dL_law_162 (lv_at hl 0 rfl) ?_
  refine lv_iconst (v := nI 1) hx hb dL_law_164 (by decide) ?_
  refine nv_isub hx hb dL_law_165 (by omega) ?_
  refine nv_icmp_ne (tgt := 201) hx hb dL_law_166 (by decide) (by omega) (by omega) (fun c9 => absurd rfl c9) (fun _ => ?_)
  refine lv_aload_n hx hb dL_law_169 rfl (lv_at hl 6 rfl) ?_
  refine nv_kN (vx_runS (As := [.ref (ADx 0)]) (rest := []) ⟨hx, hb, hml, hown, hts⟩ (c_L_state l hl9 hIx hFx) (va_cwS 1 hts gL_law_L_state rfl rfl rfl (by decide +kernel) ⟨Nat.le_of_ble_eq_true rfl, Nat.le_of_ble_eq_true rfl⟩) (nl_pS hT hX tx0 hS hsx hPx) rfl rfl hl.1 rfl (lv_room (Nat.le_of_ble_eq_true rfl)) dL_law_170 ⟨Nat.le_of_ble_eq_true rfl, Nat.le_of_ble_eq_true rfl⟩) hS hsx (fun H locs hPx hK hS => ?_)
  have hPy := cW_keep hPy hK hxy
  refine lv_iload hx hb dL_law_173 (lv_at hl 3 rfl) ?_
  refine lv_icmp_ne (tgt := 201) hx hb dL_law_175 (by decide) (fun c9 => absurd rfl c9) (fun _ => ?_)
  refine lv_aload_n hx hb dL_law_178 rfl (lv_at hl 5 rfl) ?_
  refine nv_kLX (vx_runV (As := []) (rest := []) ⟨hx, hb, hml, hown, hts⟩ (c_X6_undo l hl9 (A := cRg ADy 0 165) hGy hIy cRg_self hchy hHwy) (cwV 0 hts gL_law_X6_undo rfl rfl rfl (by decide +kernel) ⟨Nat.le_of_ble_eq_true rfl, Nat.le_of_ble_eq_true rfl⟩) (nt_pVn hT hS hsy hPy (va_recv hT.1.1 hPy.1 (ci := 8) (q0 := 0) rfl rfl)) rfl rfl hl.1 rfl (lv_room (Nat.le_of_ble_eq_true rfl)) dL_law_179 ⟨Nat.le_of_ble_eq_true rfl, Nat.le_of_ble_eq_true rfl⟩) hS hsy (fun E ce q9 H1 locs1 h0 hE hP1 hK1 hS1 hcell hv9 hcl => absurd (if_neg (by omega)) h0) (fun H locs h0 hPy hK hS => ?_)
  have hPx := cW_keep hPx hK hyx
  obtain ⟨hFy, hPy⟩ := undo_c (F := va_up G 11 (oW w)) (by omega) (fun j hj => un_1 hj) hFy (by decide) hPy
  obtain ⟨bqy, hGy, h25y, hbky, hk5y, hchy, hHby, hhsy, hSvby, htyy, hIn7y, hlny, hLey, hwyy⟩ := id hFy
  have hHwy : ∀ j, j < _ → hAt _ j 0 ≤ 8 ∧ hAt _ j 1 ≤ 6 ∧ hAt _ j 2 ≤ 5 := fun j hj => ⟨(hHby j hj).2.2.1, (hHby j hj).2.2.2.1, (hHby j hj).2.2.2.2.1⟩
  have hbby : bqy + 1 < 2 ^ 20 := by omega
  have hb32y : bqy + 32 < 2 ^ 20 := by omega
  have h13y : bqy < 8192 := by omega
  refine nv_if_ltn (tgt := 201) hx hb dL_law_182 (by decide) (by omega) ?_
  refine lv_aload_n hx hb dL_law_185 rfl (lv_at hl 5 rfl) ?_
  refine nv_kLX (vx_runV (As := []) (rest := []) ⟨hx, hb, hml, hown, hts⟩ (c_X6_undo l hl9 (A := cRg ADy 0 165) hGy hIy cRg_self hchy hHwy) (cwV 0 hts gL_law_X6_undo rfl rfl rfl (by decide +kernel) ⟨Nat.le_of_ble_eq_true rfl, Nat.le_of_ble_eq_true rfl⟩) (nt_pVn hT hS hsy hPy (va_recv hT.1.1 hPy.1 (ci := 8) (q0 := 0) rfl rfl)) rfl rfl hl.1 rfl (lv_room (Nat.le_of_ble_eq_true rfl)) dL_law_186 ⟨Nat.le_of_ble_eq_true rfl, Nat.le_of_ble_eq_true rfl⟩) hS hsy (fun E ce q9 H1 locs1 h0 hE hP1 hK1 hS1 hcell hv9 hcl => absurd (if_neg (by omega)) h0) (fun H locs h0 hPy hK hS => ?_)
  have hPx := cW_keep hPx hK hyx
  obtain ⟨hFy, hPy⟩ := undo_c (F := G) (by omega) (fun j hj => un_2 hc8 hj) hFy (by decide) hPy
  obtain ⟨bqy, hGy, h25y, hbky, hk5y, hchy, hHby, hhsy, hSvby, htyy, hIn7y, hlny, hLey, hwyy⟩ := id hFy
  have hHwy : ∀ j, j < _ → hAt _ j 0 ≤ 8 ∧ hAt _ j 1 ≤ 6 ∧ hAt _ j 2 ≤ 5 := fun j hj => ⟨(hHby j hj).2.2.1, (hHby j hj).2.2.2.1, (hHby j hj).2.2.2.2.1⟩
  have hbby : bqy + 1 < 2 ^ 20 := by omega
  have hb32y : bqy + 32 < 2 ^ 20 := by omega
  have h13y : bqy < 8192 := by omega
  refine nv_if_ltn (tgt := 201) hx hb dL_law_189 (by decide) (by omega) ?_
  refine lv_aload_n hx hb dL_law_192 rfl (lv_at hl 5 rfl) ?_
  refine nv_kN (vx_runS (As := [.ref (ADy 0)]) (rest := []) ⟨hx, hb, hml, hown, hts⟩ (c_L_state l hl9 hIy hFy) (va_cwS 1 hts gL_law_L_state rfl rfl rfl (by decide +kernel) ⟨Nat.le_of_ble_eq_true rfl, Nat.le_of_ble_eq_true rfl⟩) (nl_pS hT hX tx0 hS hsy hPy) rfl rfl hl.1 rfl (lv_room (Nat.le_of_ble_eq_true rfl)) dL_law_193 ⟨Nat.le_of_ble_eq_true rfl, Nat.le_of_ble_eq_true rfl⟩) hS hsy (fun H locs hPy hK hS => ?_)
  have hPx := cW_keep hPx hK hyx
  refine lv_iload hx hb dL_law_196 (lv_at hl 3 rfl) ?_
  refine lv_icmp_eq (tgt := 203) hx hb dL_law_198 (by decide) (fun _ => ?_) (fun c9 => absurd rfl c9)
  refine W.widen (k := 2000 * 3) (n := 20000 * 3) (Nat.le_of_ble_eq_true rfl) (Nat.le_of_ble_eq_true rfl) ?_
  exact kz _ _ _ hFx H locs ls hPx hS (lv_sub hl [1, 2, 3, 4, 5, 6, 7] rfl)
