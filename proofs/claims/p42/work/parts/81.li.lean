set_option maxHeartbeats 4000000 in
set_option maxRecDepth 100000 in
theorem law_I {p0 : Program} {e0 : Env} {s : State} {m0 : MethodId} {below : List Frame} {meth : Method} {c0 : Code} {Q : State → Prop} {l : Launch} {b9 L : Nat} {xs : Nat → Int32} {D : va_G} {cI cC cD cR cB : ClassId} {sa : sA} (hC : lwC p0 l s m0 c0 b9 L xs D cI cC cD cR cB sa) {G : Nat → Nat} {ADx ADz : Nat → Nat} (hIx : cInj ADx) (hAx : ∀ i, i < 165 → s.heap.size ≤ ADx i) (hIz : cInj ADz) (hAz : ∀ i, i < 165 → s.heap.size ≤ ADz i) (hxz : ∀ i j, i < 165 → j < 165 → ADx i ≠ ADz j) (hzx : ∀ i j, i < 165 → j < 165 → ADz i ≠ ADx j) {g : Nat} (hg : g < 3) {Hz In Le : Nat → Nat} {cz : Nat} (hFz : lF 36 (zT1 g) qZ Hz In Le 0 cz 0 0 8) (kz : ∀ (Hz In Le : Nat → Nat) (cz : Nat), lF 44 (zT6 g) qZ Hz In Le 0 cz 0 7 8 → ∀ (H : Heap) (locs : List Loc) (ls : Array Slot), (xV D cI cC cD cR ADx 176 G H ∧ cW D cI cC cD cR ADz (zT6 g) qZ Hz In Le 0 cz 0 7 8 (-1) (-1) (nI 1) H) → va_S (aN s.heap.size) s.heap H locs → lv_has ls 13 [(12, .ref (ADz 0)), (11, .int (nI (gl g))), (10, .int (nI (gH g))), (9, .int (nI g)), (4, .int (stF G)), (3, .int (nI (G 0))), (1, .ref (ADx 0)), (0, .ref b9)] → W p0 l e0 room_1 s m0 #[Value.ref b9] below meth c0 H locs (2000 * 9) (20000 * 9) Q (F0 m0 1043 ls [])) : ∀ (H : Heap) (locs : List Loc) (ls : Array Slot), (xV D cI cC cD cR ADx 176 G H ∧ cW D cI cC cD cR ADz (zT1 g) qZ Hz In Le 0 cz 0 0 8 (-1) (-1) (nI 0) H) → va_S (aN s.heap.size) s.heap H locs → lv_has ls 13 [(12, .ref (ADz 0)), (11, .int (nI (gl g))), (10, .int (nI (gH g))), (9, .int (nI g)), (4, .int (stF G)), (3, .int (nI (G 0))), (1, .ref (ADx 0)), (0, .ref b9)] → W p0 l e0 room_1 s m0 #[Value.ref b9] below meth c0 H locs (2000 * 8) (20000 * 8) Q (F0 m0 820 ls []) := by
  obtain ⟨hx, hb, hml, hown, hts, hl9, hXs, hbl, hL, hT, hX⟩ := id hC
  rintro H locs ls ⟨hPx, hPz⟩ hS hl
  have hsx : ∀ q, cRg ADx 0 165 q → aN s.heap.size q := cRg_A hAx (Nat.le_refl _)
  have hsz : ∀ q, cRg ADz 0 165 q → aN s.heap.size q := cRg_A hAz (Nat.le_refl _)
  have hgh : gH g < 3 := Nat.mod_lt _ (by decide)
  refine lv_aload hx hb dL_law_820 (lv_at hl 0 rfl) ?_
  refine lv_iconst (v := nI 0) hx hb dL_law_822 (by decide) ?_
  refine lv_iload hx hb dL_law_823 (lv_at hl 3 rfl) ?_
  refine lv_iconst (v := nI 0) hx hb dL_law_825 (by decide) ?_
  refine lv_iconst (v := nI 1) hx hb dL_law_826 (by decide) ?_
  obtain ⟨bqz, hGz, h25z, hbkz, hk5z, hchz, hHbz, hhsz, hSvbz, htyz, hIn7z, hlnz, hLez, hwyz⟩ := id hFz
  have hHwz : ∀ j, j < _ → hAt _ j 0 ≤ 8 ∧ hAt _ j 1 ≤ 6 ∧ hAt _ j 2 ≤ 5 := fun j hj => ⟨(hHbz j hj).2.2.1, (hHbz j hj).2.2.2.1, (hHbz j hj).2.2.2.2.1⟩
  have hbbz : bqz + 1 < 2 ^ 20 := by omega
  have hb32z : bqz + 32 < 2 ^ 20 := by omega
  have h13z : bqz < 8192 := by omega
  refine nv_kLX (vx_runV (As := [.int (nI 0), .int (nI g), .int (nI 0), .int (nI 1)]) (rest := []) ⟨hx, hb, hml, hown, hts⟩ (c_X6_knock l hl9 (A := cRg ADz 0 165) hGz hIz cRg_self hchz hHwz h25z hbbz (nI 0) (nI g) 0 (nI 1) (by decide)) (cwV 4 hts gL_law_X6_knock rfl rfl rfl (by decide +kernel) ⟨Nat.le_of_ble_eq_true rfl, Nat.le_of_ble_eq_true rfl⟩) (nt_pVn hT hS hsz hPz (va_recv hT.1.1 hPz.1 (ci := 8) (q0 := 0) rfl rfl)) rfl rfl hl.1 rfl (lv_room (Nat.le_of_ble_eq_true rfl)) dL_law_827 ⟨Nat.le_of_ble_eq_true rfl, Nat.le_of_ble_eq_true rfl⟩) hS hsz (fun E ce q9 H1 locs1 h0 hE hP1 hK1 hS1 hcell hv9 hcl => absurd ((zs1 g hg).1) h0) (fun H locs h0 hPz hK hS => ?_)
  refine nv_to 2 (zs1 g hg).2.2.1 ?_
  have hPx := xV_keep hPx hK hzx
  obtain ⟨Hz, cz, hFz, hPz⟩ := zW_step (G2 := zT2 g) (k2 := 37) hFz (by decide) hPz (fun b9 h1 h2 h3 => vWf_vKnock h1 h2 h3) (zs1 g hg).2.1 (zs1 g hg).2.2.2 rfl
  refine lv_iconst (v := nI 2) hx hb dL_law_830 (by decide) ?_
  refine nv_icmp_ne (tgt := 1041) hx hb dL_law_831 (by decide) (by omega) (by omega) (fun c9 => absurd rfl c9) (fun _ => ?_)
  refine lv_aload hx hb dL_law_834 (lv_at hl 0 rfl) ?_
  refine lv_iconst (v := nI 0) hx hb dL_law_836 (by decide) ?_
  refine lv_iload hx hb dL_law_837 (lv_at hl 2 rfl) ?_
  refine lv_iconst (v := nI 1) hx hb dL_law_839 (by decide) ?_
  refine lv_iconst (v := nI 1) hx hb dL_law_840 (by decide) ?_
  obtain ⟨bqz, hGz, h25z, hbkz, hk5z, hchz, hHbz, hhsz, hSvbz, htyz, hIn7z, hlnz, hLez, hwyz⟩ := id hFz
  have hHwz : ∀ j, j < _ → hAt _ j 0 ≤ 8 ∧ hAt _ j 1 ≤ 6 ∧ hAt _ j 2 ≤ 5 := fun j hj => ⟨(hHbz j hj).2.2.1, (hHbz j hj).2.2.2.1, (hHbz j hj).2.2.2.2.1⟩
  have hbbz : bqz + 1 < 2 ^ 20 := by omega
  have hb32z : bqz + 32 < 2 ^ 20 := by omega
  have h13z : bqz < 8192 := by omega
  refine nv_kLX (vx_runV (As := [.int (nI 0), .int (nI (gH g)), .int (nI 1), .int (nI 1)]) (rest := []) ⟨hx, hb, hml, hown, hts⟩ (c_X6_knock l hl9 (A := cRg ADz 0 165) hGz hIz cRg_self hchz hHwz h25z hbbz (nI 0) (nI (gH g)) 1 (nI 1) (by decide)) (cwV 4 hts gL_law_X6_knock rfl rfl rfl (by decide +kernel) ⟨Nat.le_of_ble_eq_true rfl, Nat.le_of_ble_eq_true rfl⟩) (nt_pVn hT hS hsz hPz (va_recv hT.1.1 hPz.1 (ci := 8) (q0 := 0) rfl rfl)) rfl rfl hl.1 rfl (lv_room (Nat.le_of_ble_eq_true rfl)) dL_law_841 ⟨Nat.le_of_ble_eq_true rfl, Nat.le_of_ble_eq_true rfl⟩) hS hsz (fun E ce q9 H1 locs1 h0 hE hP1 hK1 hS1 hcell hv9 hcl => absurd ((zs2 g hg).1) h0) (fun H locs h0 hPz hK hS => ?_)
  refine nv_to 0 (zs2 g hg).2.2.1 ?_
  have hPx := xV_keep hPx hK hzx
  obtain ⟨Hz, cz, hFz, hPz⟩ := zW_step (G2 := zT3 g) (k2 := 38) hFz (by decide) hPz (fun b9 h1 h2 h3 => vWf_vKnock h1 h2 h3) (zs2 g hg).2.1 (zs2 g hg).2.2.2 rfl
  refine nv_if_ne (tgt := 1041) hx hb dL_law_844 (by decide) (by omega) (fun c9 => absurd c9 (by decide)) (fun _ => ?_)
  refine lv_aload hx hb dL_law_847 (lv_at hl 0 rfl) ?_
  refine lv_iconst (v := nI 0) hx hb dL_law_849 (by decide) ?_
  refine lv_iconst (v := nI 5) hx hb dL_law_850 (by decide) ?_
  obtain ⟨bqz, hGz, h25z, hbkz, hk5z, hchz, hHbz, hhsz, hSvbz, htyz, hIn7z, hlnz, hLez, hwyz⟩ := id hFz
  have hHwz : ∀ j, j < _ → hAt _ j 0 ≤ 8 ∧ hAt _ j 1 ≤ 6 ∧ hAt _ j 2 ≤ 5 := fun j hj => ⟨(hHbz j hj).2.2.1, (hHbz j hj).2.2.2.1, (hHbz j hj).2.2.2.2.1⟩
  have hbbz : bqz + 1 < 2 ^ 20 := by omega
  have hb32z : bqz + 32 < 2 ^ 20 := by omega
  have h13z : bqz < 8192 := by omega
  refine nv_kLX (vx_runV (As := [.int (nI 0), .int (nI 5)]) (rest := []) ⟨hx, hb, hml, hown, hts⟩ (c_X6_doorOf l hl9 (A := cRg ADz 0 165) hGz hIz cRg_self (nI 0) (nI 5)) (cwV 2 hts gL_law_X6_doorOf rfl rfl rfl (by decide +kernel) ⟨Nat.le_of_ble_eq_true rfl, Nat.le_of_ble_eq_true rfl⟩) (nt_pVn hT hS hsz hPz (va_recv hT.1.1 hPz.1 (ci := 8) (q0 := 0) rfl rfl)) rfl rfl hl.1 rfl (lv_room (Nat.le_of_ble_eq_true rfl)) dL_law_851 ⟨Nat.le_of_ble_eq_true rfl, Nat.le_of_ble_eq_true rfl⟩) hS hsz (fun E ce q9 H1 locs1 h0 hE hP1 hK1 hS1 hcell hv9 hcl => absurd ((if_pos (show iR (nI 0) ((zT3 g) 0) from by rw [show (zT3 g) 0 = 2 from rfl]; decide)).trans (if_pos (by decide))) h0) (fun H locs h0 hPz hK hS => ?_)
  refine nv_to 2 (by rw [if_pos (show iR (nI 0) ((zT3 g) 0) from by rw [show (zT3 g) 0 = 2 from rfl]; decide), if_pos (show iR (nI 5) 11 by decide), tN_nI (k := 0) (by decide), tN_nI (k := 5) (by decide)]; exact congrArg nI (z3_f g hg).1) ?_
  have hPx := xV_keep hPx hK hzx
  refine lv_iconst (v := nI 2) hx hb dL_law_854 (by decide) ?_
  refine nv_icmp_ne (tgt := 1041) hx hb dL_law_855 (by decide) (by omega) (by omega) (fun c9 => absurd rfl c9) (fun _ => ?_)
  refine lv_aload hx hb dL_law_858 (lv_at hl 0 rfl) ?_
  refine lv_bipush (v := nI 8) hx hb dL_law_860 (by decide) ?_
  refine lv_iconst (v := nI 0) hx hb dL_law_862 (by decide) ?_
  refine lv_iconst (v := nI 0) hx hb dL_law_863 (by decide) ?_
  refine lv_iconst (v := nI 0) hx hb dL_law_864 (by decide) ?_
  refine lv_iconst (v := nI 0) hx hb dL_law_865 (by decide) ?_
  refine lv_iconst (v := nI 0) hx hb dL_law_866 (by decide) ?_
  refine nv_kN (vx_runSX (hh := [(0, 69, 150, 75), (70, 75, 150, 75), (76, 82, 150, 75), (83, 89, 150, 75), (90, 109, 150, 75), (110, 116, 150, 75), (117, 136, 150, 75), (137, 142, 150, 75), (143, 149, 150, 75), (0, 69, 155, 77), (70, 75, 155, 77), (76, 82, 155, 77), (83, 89, 155, 77), (90, 109, 155, 77), (110, 116, 155, 77), (117, 136, 155, 77), (137, 142, 155, 77), (143, 149, 155, 77), (0, 69, 160, 79), (70, 75, 160, 79), (76, 82, 160, 79), (83, 89, 160, 79), (90, 109, 160, 79), (110, 116, 160, 79), (117, 136, 160, 79), (137, 142, 160, 79), (143, 149, 160, 79)]) (As := [.ref (ADz 0), .int (nI 8), .int (nI 0), .int (nI 0), .int (nI 0), .int (nI 0), .int (nI 0)]) (rest := []) ⟨hx, hb, hml, hown, hts⟩ (c_L_act_free l hl9 hIz hFz (by decide) (nI 0) (nI 0) (nI 0) (nI 0) (nI 0)) (vx_cwSW 7 hts gL_law_L_act rfl rfl rfl (by decide +kernel) ⟨Nat.le_of_ble_eq_true rfl, Nat.le_of_ble_eq_true rfl⟩) (nl_pS hT hX tx0 hS hsz hPz) rfl rfl hl.1 rfl (lv_room (Nat.le_of_ble_eq_true rfl)) dL_law_867 ⟨Nat.le_of_ble_eq_true rfl, Nat.le_of_ble_eq_true rfl⟩) hS hsz (fun H locs hPz hK hS => ?_)
  have hPx := xV_keep hPx hK hzx
  refine nv_toi (-2) (by exact aR_ref (zr3 g hg).1 (by decide)) ?_
  obtain ⟨Hz, cz, hFz, hPz⟩ := zW_ref (w := 6) (d := nI 2) (k2 := 39) hFz (by decide) hPz (by rw [(zr3 g hg).1]; decide) (vFree_G (by rw [(zr3 g hg).1]; decide)).1 (zr3 g hg).2.1 (zr3 g hg).2.2 (by decide) (by decide) rfl
  refine lv_bipush (v := (-2)) hx hb dL_law_870 (by decide) ?_
  refine lv_icmp_ne (tgt := 1041) hx hb dL_law_872 (by decide) (fun c9 => absurd rfl c9) (fun _ => ?_)
  refine lv_aload hx hb dL_law_875 (lv_at hl 0 rfl) ?_
  refine lv_iconst (v := nI 0) hx hb dL_law_877 (by decide) ?_
  refine nv_kLX (vx_runV (As := [.int (nI 0)]) (rest := []) ⟨hx, hb, hml, hown, hts⟩ (c_X6_refusal l hl9 (A := cRg ADz 0 165) (b := 0) 0 (by decide) (by decide)) (cwV 1 hts gL_law_X6_refusal rfl rfl rfl (by decide +kernel) ⟨Nat.le_of_ble_eq_true rfl, Nat.le_of_ble_eq_true rfl⟩) (nt_pVn hT hS hsz hPz (va_recv hT.1.1 hPz.1 (ci := 8) (q0 := 0) rfl rfl)) rfl rfl hl.1 rfl (lv_room (Nat.le_of_ble_eq_true rfl)) dL_law_878 ⟨Nat.le_of_ble_eq_true rfl, Nat.le_of_ble_eq_true rfl⟩) hS hsz (fun E ce q9 H1 locs1 h0 hE hP1 hK1 hS1 hcell hv9 hcl => absurd (if_neg (by decide)) h0) (fun H locs h0 hPz hK hS => ?_)
  refine nv_to 6 (by rw [if_neg (show ¬ (6 : Nat) = 0 by decide), if_pos rfl]) ?_
  have hPx := xV_keep hPx hK hzx
  refine lv_bipush (v := nI 6) hx hb dL_law_881 (by decide) ?_
  refine nv_icmp_ne (tgt := 1041) hx hb dL_law_883 (by decide) (by omega) (by omega) (fun c9 => absurd rfl c9) (fun _ => ?_)
  refine lv_aload hx hb dL_law_886 (lv_at hl 0 rfl) ?_
  refine lv_iconst (v := nI 1) hx hb dL_law_888 (by decide) ?_
  refine nv_kLX (vx_runV (As := [.int (nI 1)]) (rest := []) ⟨hx, hb, hml, hown, hts⟩ (c_X6_refusal l hl9 (A := cRg ADz 0 165) (b := 0) 1 (by decide) (by decide)) (cwV 1 hts gL_law_X6_refusal rfl rfl rfl (by decide +kernel) ⟨Nat.le_of_ble_eq_true rfl, Nat.le_of_ble_eq_true rfl⟩) (nt_pVn hT hS hsz hPz (va_recv hT.1.1 hPz.1 (ci := 8) (q0 := 0) rfl rfl)) rfl rfl hl.1 rfl (lv_room (Nat.le_of_ble_eq_true rfl)) dL_law_889 ⟨Nat.le_of_ble_eq_true rfl, Nat.le_of_ble_eq_true rfl⟩) hS hsz (fun E ce q9 H1 locs1 h0 hE hP1 hK1 hS1 hcell hv9 hcl => absurd (if_neg (by decide)) h0) (fun H locs h0 hPz hK hS => ?_)
  refine nv_to 2 (by rw [if_neg (show ¬ (6 : Nat) = 0 by decide), if_neg (show ¬ (1 : Nat) = 0 by decide)]) ?_
  have hPx := xV_keep hPx hK hzx
  refine lv_iconst (v := nI 2) hx hb dL_law_892 (by decide) ?_
  refine nv_icmp_ne (tgt := 1041) hx hb dL_law_893 (by decide) (by omega) (by omega) (fun c9 => absurd rfl c9) (fun _ => ?_)
  refine lv_aload hx hb dL_law_896 (lv_at hl 0 rfl) ?_
  refine lv_iconst (v := nI 0) hx hb dL_law_898 (by decide) ?_
  refine lv_iload hx hb dL_law_899 (lv_at hl 2 rfl) ?_
  refine lv_iconst (v := nI 0) hx hb dL_law_901 (by decide) ?_
  refine lv_iconst (v := nI 0) hx hb dL_law_902 (by decide) ?_
  obtain ⟨bqz, hGz, h25z, hbkz, hk5z, hchz, hHbz, hhsz, hSvbz, htyz, hIn7z, hlnz, hLez, hwyz⟩ := id hFz
  have hHwz : ∀ j, j < _ → hAt _ j 0 ≤ 8 ∧ hAt _ j 1 ≤ 6 ∧ hAt _ j 2 ≤ 5 := fun j hj => ⟨(hHbz j hj).2.2.1, (hHbz j hj).2.2.2.1, (hHbz j hj).2.2.2.2.1⟩
  have hbbz : bqz + 1 < 2 ^ 20 := by omega
  have hb32z : bqz + 32 < 2 ^ 20 := by omega
  have h13z : bqz < 8192 := by omega
  refine nv_kLX (vx_runV (As := [.int (nI 0), .int (nI (gH g)), .int (nI 0), .int (nI 0)]) (rest := []) ⟨hx, hb, hml, hown, hts⟩ (c_X6_knock l hl9 (A := cRg ADz 0 165) hGz hIz cRg_self hchz hHwz h25z hbbz (nI 0) (nI (gH g)) 0 (nI 0) (by decide)) (cwV 4 hts gL_law_X6_knock rfl rfl rfl (by decide +kernel) ⟨Nat.le_of_ble_eq_true rfl, Nat.le_of_ble_eq_true rfl⟩) (nt_pVn hT hS hsz hPz (va_recv hT.1.1 hPz.1 (ci := 8) (q0 := 0) rfl rfl)) rfl rfl hl.1 rfl (lv_room (Nat.le_of_ble_eq_true rfl)) dL_law_903 ⟨Nat.le_of_ble_eq_true rfl, Nat.le_of_ble_eq_true rfl⟩) hS hsz (fun E ce q9 H1 locs1 h0 hE hP1 hK1 hS1 hcell hv9 hcl => absurd ((zs3 g hg).1) h0) (fun H locs h0 hPz hK hS => ?_)
  refine nv_to 2 (zs3 g hg).2.2.1 ?_
  have hPx := xV_keep hPx hK hzx
  obtain ⟨Hz, cz, hFz, hPz⟩ := zW_step (G2 := zT4 g) (k2 := 40) hFz (by decide) hPz (fun b9 h1 h2 h3 => vWf_vKnock h1 h2 h3) (zs3 g hg).2.1 (zs3 g hg).2.2.2 rfl
  refine lv_iconst (v := nI 2) hx hb dL_law_906 (by decide) ?_
  refine nv_icmp_ne (tgt := 1041) hx hb dL_law_907 (by decide) (by omega) (by omega) (fun c9 => absurd rfl c9) (fun _ => ?_)
  refine lv_aload hx hb dL_law_910 (lv_at hl 0 rfl) ?_
  refine lv_iconst (v := nI 0) hx hb dL_law_912 (by decide) ?_
  refine lv_bipush (v := nI 6) hx hb dL_law_913 (by decide) ?_
  obtain ⟨bqz, hGz, h25z, hbkz, hk5z, hchz, hHbz, hhsz, hSvbz, htyz, hIn7z, hlnz, hLez, hwyz⟩ := id hFz
  have hHwz : ∀ j, j < _ → hAt _ j 0 ≤ 8 ∧ hAt _ j 1 ≤ 6 ∧ hAt _ j 2 ≤ 5 := fun j hj => ⟨(hHbz j hj).2.2.1, (hHbz j hj).2.2.2.1, (hHbz j hj).2.2.2.2.1⟩
  have hbbz : bqz + 1 < 2 ^ 20 := by omega
  have hb32z : bqz + 32 < 2 ^ 20 := by omega
  have h13z : bqz < 8192 := by omega
  refine nv_kLX (vx_runV (As := [.int (nI 0), .int (nI 6)]) (rest := []) ⟨hx, hb, hml, hown, hts⟩ (c_X6_doorOf l hl9 (A := cRg ADz 0 165) hGz hIz cRg_self (nI 0) (nI 6)) (cwV 2 hts gL_law_X6_doorOf rfl rfl rfl (by decide +kernel) ⟨Nat.le_of_ble_eq_true rfl, Nat.le_of_ble_eq_true rfl⟩) (nt_pVn hT hS hsz hPz (va_recv hT.1.1 hPz.1 (ci := 8) (q0 := 0) rfl rfl)) rfl rfl hl.1 rfl (lv_room (Nat.le_of_ble_eq_true rfl)) dL_law_915 ⟨Nat.le_of_ble_eq_true rfl, Nat.le_of_ble_eq_true rfl⟩) hS hsz (fun E ce q9 H1 locs1 h0 hE hP1 hK1 hS1 hcell hv9 hcl => absurd ((if_pos (show iR (nI 0) ((zT4 g) 0) from by rw [show (zT4 g) 0 = 2 from rfl]; decide)).trans (if_pos (by decide))) h0) (fun H locs h0 hPz hK hS => ?_)
  refine nv_to 1 (by rw [if_pos (show iR (nI 0) ((zT4 g) 0) from by rw [show (zT4 g) 0 = 2 from rfl]; decide), if_pos (show iR (nI 6) 11 by decide), tN_nI (k := 0) (by decide), tN_nI (k := 6) (by decide)]; exact congrArg nI (z4_f g hg).1) ?_
  have hPx := xV_keep hPx hK hzx
  refine lv_iconst (v := nI 1) hx hb dL_law_918 (by decide) ?_
  refine nv_icmp_ne (tgt := 1041) hx hb dL_law_919 (by decide) (by omega) (by omega) (fun c9 => absurd rfl c9) (fun _ => ?_)
  refine lv_aload hx hb dL_law_922 (lv_at hl 0 rfl) ?_
  refine lv_bipush (v := nI 8) hx hb dL_law_924 (by decide) ?_
  refine nv_kLX (vx_runV (As := [.int (nI 8)]) (rest := []) ⟨hx, hb, hml, hown, hts⟩ (c_X6_account l hl9 (A := cRg ADz 0 165) hGz hIz cRg_self (nI 8)) (cwV 1 hts gL_law_X6_account rfl rfl rfl (by decide +kernel) ⟨Nat.le_of_ble_eq_true rfl, Nat.le_of_ble_eq_true rfl⟩) (nt_pVn hT hS hsz hPz (va_recv hT.1.1 hPz.1 (ci := 8) (q0 := 0) rfl rfl)) rfl rfl hl.1 rfl (lv_room (Nat.le_of_ble_eq_true rfl)) dL_law_926 ⟨Nat.le_of_ble_eq_true rfl, Nat.le_of_ble_eq_true rfl⟩) hS hsz (fun E ce q9 H1 locs1 h0 hE hP1 hK1 hS1 hcell hv9 hcl => absurd (if_pos (by decide)) h0) (fun H locs h0 hPz hK hS => ?_)
  refine nv_to 1 (by rw [if_pos (show iR (nI 8) 13 by decide), tN_nI (by decide)]; exact congrArg nI (z4_f g hg).2.1) ?_
  have hPx := xV_keep hPx hK hzx
  refine lv_iconst (v := nI 1) hx hb dL_law_929 (by decide) ?_
  refine nv_icmp_ne (tgt := 1041) hx hb dL_law_930 (by decide) (by omega) (by omega) (fun c9 => absurd rfl c9) (fun _ => ?_)
  refine lv_aload hx hb dL_law_933 (lv_at hl 0 rfl) ?_
  refine lv_bipush (v := nI 6) hx hb dL_law_935 (by decide) ?_
  refine lv_iconst (v := nI 0) hx hb dL_law_937 (by decide) ?_
  refine lv_iload hx hb dL_law_938 (lv_at hl 3 rfl) ?_
  refine lv_iconst (v := nI 0) hx hb dL_law_940 (by decide) ?_
  refine lv_iconst (v := nI 0) hx hb dL_law_941 (by decide) ?_
  refine lv_iconst (v := nI 0) hx hb dL_law_942 (by decide) ?_
  have hb0 : bI (nI 0 = nI 1) = 0 := by decide
  refine nv_kN (vx_runSX (hh := [(0, 69, 150, 75), (70, 75, 150, 75), (76, 82, 150, 75), (83, 89, 150, 75), (90, 109, 150, 75), (110, 116, 150, 75), (117, 136, 150, 75), (137, 142, 150, 75), (143, 149, 150, 75), (0, 69, 155, 77), (70, 75, 155, 77), (76, 82, 155, 77), (83, 89, 155, 77), (90, 109, 155, 77), (110, 116, 155, 77), (117, 136, 155, 77), (137, 142, 155, 77), (143, 149, 155, 77), (0, 69, 160, 79), (70, 75, 160, 79), (76, 82, 160, 79), (83, 89, 160, 79), (90, 109, 160, 79), (110, 116, 160, 79), (117, 136, 160, 79), (137, 142, 160, 79), (143, 149, 160, 79)]) (As := [.ref (ADz 0), .int (nI 6), .int (nI 0), .int (nI g), .int (nI 0), .int (nI 0), .int (nI 0)]) (rest := []) ⟨hx, hb, hml, hown, hts⟩ (c_L_act_knock l hl9 hIz hFz (by decide) (nI 0) (nI g) (nI 0) (nI 0) (nI 0)) (vx_cwSW 7 hts gL_law_L_act rfl rfl rfl (by decide +kernel) ⟨Nat.le_of_ble_eq_true rfl, Nat.le_of_ble_eq_true rfl⟩) (nl_pS hT hX tx0 hS hsz hPz) rfl rfl hl.1 rfl (lv_room (Nat.le_of_ble_eq_true rfl)) dL_law_943 ⟨Nat.le_of_ble_eq_true rfl, Nat.le_of_ble_eq_true rfl⟩) hS hsz (fun H locs hPz hK hS => ?_)
  have hPx := xV_keep hPx hK hzx
  refine nv_toi (-2) (by rw [hb0]; exact aR_ref (zr4 g hg).1 (by decide)) ?_
  rw [hb0] at hPz
  obtain ⟨Hz, cz, hFz, hPz⟩ := zW_ref (w := 3) (d := nI 1) (k2 := 41) hFz (by decide) hPz (by rw [(zr4 g hg).1]; decide) (vKnock_G (by rw [(zr4 g hg).1]; decide)).1 (zr4 g hg).2.1 (zr4 g hg).2.2 (by decide) (by decide) rfl
  refine lv_bipush (v := (-2)) hx hb dL_law_946 (by decide) ?_
  refine lv_icmp_ne (tgt := 1041) hx hb dL_law_948 (by decide) (fun c9 => absurd rfl c9) (fun _ => ?_)
  refine lv_aload hx hb dL_law_951 (lv_at hl 0 rfl) ?_
  refine lv_iconst (v := nI 0) hx hb dL_law_953 (by decide) ?_
  refine nv_kLX (vx_runV (As := [.int (nI 0)]) (rest := []) ⟨hx, hb, hml, hown, hts⟩ (c_X6_refusal l hl9 (A := cRg ADz 0 165) (b := 0) 0 (by decide) (by decide)) (cwV 1 hts gL_law_X6_refusal rfl rfl rfl (by decide +kernel) ⟨Nat.le_of_ble_eq_true rfl, Nat.le_of_ble_eq_true rfl⟩) (nt_pVn hT hS hsz hPz (va_recv hT.1.1 hPz.1 (ci := 8) (q0 := 0) rfl rfl)) rfl rfl hl.1 rfl (lv_room (Nat.le_of_ble_eq_true rfl)) dL_law_954 ⟨Nat.le_of_ble_eq_true rfl, Nat.le_of_ble_eq_true rfl⟩) hS hsz (fun E ce q9 H1 locs1 h0 hE hP1 hK1 hS1 hcell hv9 hcl => absurd (if_neg (by decide)) h0) (fun H locs h0 hPz hK hS => ?_)
  refine nv_to 3 (by rw [if_neg (show ¬ (3 : Nat) = 0 by decide), if_pos rfl]) ?_
  have hPx := xV_keep hPx hK hzx
  refine lv_iconst (v := nI 3) hx hb dL_law_957 (by decide) ?_
  refine nv_icmp_ne (tgt := 1041) hx hb dL_law_958 (by decide) (by omega) (by omega) (fun c9 => absurd rfl c9) (fun _ => ?_)
  refine lv_aload hx hb dL_law_961 (lv_at hl 0 rfl) ?_
  refine lv_iconst (v := nI 1) hx hb dL_law_963 (by decide) ?_
  refine nv_kLX (vx_runV (As := [.int (nI 1)]) (rest := []) ⟨hx, hb, hml, hown, hts⟩ (c_X6_refusal l hl9 (A := cRg ADz 0 165) (b := 0) 1 (by decide) (by decide)) (cwV 1 hts gL_law_X6_refusal rfl rfl rfl (by decide +kernel) ⟨Nat.le_of_ble_eq_true rfl, Nat.le_of_ble_eq_true rfl⟩) (nt_pVn hT hS hsz hPz (va_recv hT.1.1 hPz.1 (ci := 8) (q0 := 0) rfl rfl)) rfl rfl hl.1 rfl (lv_room (Nat.le_of_ble_eq_true rfl)) dL_law_964 ⟨Nat.le_of_ble_eq_true rfl, Nat.le_of_ble_eq_true rfl⟩) hS hsz (fun E ce q9 H1 locs1 h0 hE hP1 hK1 hS1 hcell hv9 hcl => absurd (if_neg (by decide)) h0) (fun H locs h0 hPz hK hS => ?_)
  refine nv_to 1 (by rw [if_neg (show ¬ (3 : Nat) = 0 by decide), if_neg (show ¬ (1 : Nat) = 0 by decide)]) ?_
  have hPx := xV_keep hPx hK hzx
  refine lv_iconst (v := nI 1) hx hb dL_law_967 (by decide) ?_
  refine nv_icmp_ne (tgt := 1041) hx hb dL_law_968 (by decide) (by omega) (by omega) (fun c9 => absurd rfl c9) (fun _ => ?_)
  refine lv_aload hx hb dL_law_971 (lv_at hl 0 rfl) ?_
  refine lv_iconst (v := nI 0) hx hb dL_law_973 (by decide) ?_
  refine lv_iload hx hb dL_law_974 (lv_at hl 2 rfl) ?_
  obtain ⟨bqz, hGz, h25z, hbkz, hk5z, hchz, hHbz, hhsz, hSvbz, htyz, hIn7z, hlnz, hLez, hwyz⟩ := id hFz
  have hHwz : ∀ j, j < _ → hAt _ j 0 ≤ 8 ∧ hAt _ j 1 ≤ 6 ∧ hAt _ j 2 ≤ 5 := fun j hj => ⟨(hHbz j hj).2.2.1, (hHbz j hj).2.2.2.1, (hHbz j hj).2.2.2.2.1⟩
  have hbbz : bqz + 1 < 2 ^ 20 := by omega
  have hb32z : bqz + 32 < 2 ^ 20 := by omega
  have h13z : bqz < 8192 := by omega
  refine nv_kLX (vx_runV (As := [.int (nI 0), .int (nI (gH g))]) (rest := []) ⟨hx, hb, hml, hown, hts⟩ (c_X6_key l hl9 (A := cRg ADz 0 165) hGz hIz cRg_self hchz hHwz h25z hbbz (nI 0) (nI (gH g))) (cwV 2 hts gL_law_X6_key rfl rfl rfl (by decide +kernel) ⟨Nat.le_of_ble_eq_true rfl, Nat.le_of_ble_eq_true rfl⟩) (nt_pVn hT hS hsz hPz (va_recv hT.1.1 hPz.1 (ci := 8) (q0 := 0) rfl rfl)) rfl rfl hl.1 rfl (lv_room (Nat.le_of_ble_eq_true rfl)) dL_law_976 ⟨Nat.le_of_ble_eq_true rfl, Nat.le_of_ble_eq_true rfl⟩) hS hsz (fun E ce q9 H1 locs1 h0 hE hP1 hK1 hS1 hcell hv9 hcl => absurd ((zs4 g hg).1) h0) (fun H locs h0 hPz hK hS => ?_)
  refine nv_to 1 (zs4 g hg).2.2.1 ?_
  have hPx := xV_keep hPx hK hzx
  obtain ⟨Hz, cz, hFz, hPz⟩ := zW_step (G2 := zT5 g) (k2 := 42) hFz (by decide) hPz (fun b9 h1 h2 h3 => vWf_vKey h1 h2 h3) (zs4 g hg).2.1 (zs4 g hg).2.2.2 rfl
  refine lv_iconst (v := nI 1) hx hb dL_law_979 (by decide) ?_
  refine nv_icmp_ne (tgt := 1041) hx hb dL_law_980 (by decide) (by omega) (by omega) (fun c9 => absurd rfl c9) (fun _ => ?_)
  refine lv_aload hx hb dL_law_983 (lv_at hl 0 rfl) ?_
  refine lv_bipush (v := nI 8) hx hb dL_law_985 (by decide) ?_
  refine lv_iconst (v := nI 1) hx hb dL_law_987 (by decide) ?_
  refine lv_iconst (v := nI 0) hx hb dL_law_988 (by decide) ?_
  refine lv_iconst (v := nI 0) hx hb dL_law_989 (by decide) ?_
  refine lv_iconst (v := nI 0) hx hb dL_law_990 (by decide) ?_
  refine lv_iconst (v := nI 0) hx hb dL_law_991 (by decide) ?_
  refine nv_kN (vx_runSX (hh := [(0, 69, 150, 75), (70, 75, 150, 75), (76, 82, 150, 75), (83, 89, 150, 75), (90, 109, 150, 75), (110, 116, 150, 75), (117, 136, 150, 75), (137, 142, 150, 75), (143, 149, 150, 75), (0, 69, 155, 77), (70, 75, 155, 77), (76, 82, 155, 77), (83, 89, 155, 77), (90, 109, 155, 77), (110, 116, 155, 77), (117, 136, 155, 77), (137, 142, 155, 77), (143, 149, 155, 77), (0, 69, 160, 79), (70, 75, 160, 79), (76, 82, 160, 79), (83, 89, 160, 79), (90, 109, 160, 79), (110, 116, 160, 79), (117, 136, 160, 79), (137, 142, 160, 79), (143, 149, 160, 79)]) (As := [.ref (ADz 0), .int (nI 8), .int (nI 1), .int (nI 0), .int (nI 0), .int (nI 0), .int (nI 0)]) (rest := []) ⟨hx, hb, hml, hown, hts⟩ (c_L_act_free l hl9 hIz hFz (by decide) (nI 1) (nI 0) (nI 0) (nI 0) (nI 0)) (vx_cwSW 7 hts gL_law_L_act rfl rfl rfl (by decide +kernel) ⟨Nat.le_of_ble_eq_true rfl, Nat.le_of_ble_eq_true rfl⟩) (nl_pS hT hX tx0 hS hsz hPz) rfl rfl hl.1 rfl (lv_room (Nat.le_of_ble_eq_true rfl)) dL_law_992 ⟨Nat.le_of_ble_eq_true rfl, Nat.le_of_ble_eq_true rfl⟩) hS hsz (fun H locs hPz hK hS => ?_)
  have hPx := xV_keep hPx hK hzx
  refine nv_toi (-2) (by exact aR_ref (zr5 g hg).1 (by decide)) ?_
  obtain ⟨Hz, cz, hFz, hPz⟩ := zW_ref (w := 7) (d := nI 1) (k2 := 43) hFz (by decide) hPz (by rw [(zr5 g hg).1]; decide) (vFree_G (by rw [(zr5 g hg).1]; decide)).1 (zr5 g hg).2.1 (zr5 g hg).2.2 (by decide) (by decide) rfl
  refine lv_bipush (v := (-2)) hx hb dL_law_995 (by decide) ?_
  refine lv_icmp_ne (tgt := 1041) hx hb dL_law_997 (by decide) (fun c9 => absurd rfl c9) (fun _ => ?_)
  refine lv_aload hx hb dL_law_1000 (lv_at hl 0 rfl) ?_
  refine lv_iconst (v := nI 0) hx hb dL_law_1002 (by decide) ?_
  refine nv_kLX (vx_runV (As := [.int (nI 0)]) (rest := []) ⟨hx, hb, hml, hown, hts⟩ (c_X6_refusal l hl9 (A := cRg ADz 0 165) (b := 0) 0 (by decide) (by decide)) (cwV 1 hts gL_law_X6_refusal rfl rfl rfl (by decide +kernel) ⟨Nat.le_of_ble_eq_true rfl, Nat.le_of_ble_eq_true rfl⟩) (nt_pVn hT hS hsz hPz (va_recv hT.1.1 hPz.1 (ci := 8) (q0 := 0) rfl rfl)) rfl rfl hl.1 rfl (lv_room (Nat.le_of_ble_eq_true rfl)) dL_law_1003 ⟨Nat.le_of_ble_eq_true rfl, Nat.le_of_ble_eq_true rfl⟩) hS hsz (fun E ce q9 H1 locs1 h0 hE hP1 hK1 hS1 hcell hv9 hcl => absurd (if_neg (by decide)) h0) (fun H locs h0 hPz hK hS => ?_)
  refine nv_to 7 (by rw [if_neg (show ¬ (7 : Nat) = 0 by decide), if_pos rfl]) ?_
  have hPx := xV_keep hPx hK hzx
  refine lv_bipush (v := nI 7) hx hb dL_law_1006 (by decide) ?_
  refine nv_icmp_ne (tgt := 1041) hx hb dL_law_1008 (by decide) (by omega) (by omega) (fun c9 => absurd rfl c9) (fun _ => ?_)
  refine lv_aload hx hb dL_law_1011 (lv_at hl 0 rfl) ?_
  refine lv_iconst (v := nI 1) hx hb dL_law_1013 (by decide) ?_
  refine nv_kLX (vx_runV (As := [.int (nI 1)]) (rest := []) ⟨hx, hb, hml, hown, hts⟩ (c_X6_refusal l hl9 (A := cRg ADz 0 165) (b := 0) 1 (by decide) (by decide)) (cwV 1 hts gL_law_X6_refusal rfl rfl rfl (by decide +kernel) ⟨Nat.le_of_ble_eq_true rfl, Nat.le_of_ble_eq_true rfl⟩) (nt_pVn hT hS hsz hPz (va_recv hT.1.1 hPz.1 (ci := 8) (q0 := 0) rfl rfl)) rfl rfl hl.1 rfl (lv_room (Nat.le_of_ble_eq_true rfl)) dL_law_1014 ⟨Nat.le_of_ble_eq_true rfl, Nat.le_of_ble_eq_true rfl⟩) hS hsz (fun E ce q9 H1 locs1 h0 hE hP1 hK1 hS1 hcell hv9 hcl => absurd (if_neg (by decide)) h0) (fun H locs h0 hPz hK hS => ?_)
  refine nv_to 1 (by rw [if_neg (show ¬ (7 : Nat) = 0 by decide), if_neg (show ¬ (1 : Nat) = 0 by decide)]) ?_
  have hPx := xV_keep hPx hK hzx
  refine lv_iconst (v := nI 1) hx hb dL_law_1017 (by decide) ?_
  refine nv_icmp_ne (tgt := 1041) hx hb dL_law_1018 (by decide) (by omega) (by omega) (fun c9 => absurd rfl c9) (fun _ => ?_)
  refine lv_aload hx hb dL_law_1021 (lv_at hl 0 rfl) ?_
  refine lv_iconst (v := nI 0) hx hb dL_law_1023 (by decide) ?_
  refine lv_iconst (v := nI 0) hx hb dL_law_1024 (by decide) ?_
  obtain ⟨bqz, hGz, h25z, hbkz, hk5z, hchz, hHbz, hhsz, hSvbz, htyz, hIn7z, hlnz, hLez, hwyz⟩ := id hFz
  have hHwz : ∀ j, j < _ → hAt _ j 0 ≤ 8 ∧ hAt _ j 1 ≤ 6 ∧ hAt _ j 2 ≤ 5 := fun j hj => ⟨(hHbz j hj).2.2.1, (hHbz j hj).2.2.2.1, (hHbz j hj).2.2.2.2.1⟩
  have hbbz : bqz + 1 < 2 ^ 20 := by omega
  have hb32z : bqz + 32 < 2 ^ 20 := by omega
  have h13z : bqz < 8192 := by omega
  refine nv_kLX (vx_runV (As := [.int (nI 0), .int (nI 0)]) (rest := []) ⟨hx, hb, hml, hown, hts⟩ (c_X6_free l hl9 (A := cRg ADz 0 165) hGz hIz cRg_self hchz hHwz h25z hbbz (nI 0) (nI 0)) (cwV 2 hts gL_law_X6_free rfl rfl rfl (by decide +kernel) ⟨Nat.le_of_ble_eq_true rfl, Nat.le_of_ble_eq_true rfl⟩) (nt_pVn hT hS hsz hPz (va_recv hT.1.1 hPz.1 (ci := 8) (q0 := 0) rfl rfl)) rfl rfl hl.1 rfl (lv_room (Nat.le_of_ble_eq_true rfl)) dL_law_1025 ⟨Nat.le_of_ble_eq_true rfl, Nat.le_of_ble_eq_true rfl⟩) hS hsz (fun E ce q9 H1 locs1 h0 hE hP1 hK1 hS1 hcell hv9 hcl => absurd ((zs5 g hg).1) h0) (fun H locs h0 hPz hK hS => ?_)
  refine nv_to 0 (zs5 g hg).2.2.1 ?_
  have hPx := xV_keep hPx hK hzx
  obtain ⟨Hz, cz, hFz, hPz⟩ := zW_step (G2 := zT6 g) (k2 := 44) hFz (by decide) hPz (fun b9 h1 h2 h3 => vWf_vFree h1 h2 h3) (zs5 g hg).2.1 (zs5 g hg).2.2.2 rfl
  refine nv_if_ne (tgt := 1041) hx hb dL_law_1028 (by decide) (by omega) (fun c9 => absurd c9 (by decide)) (fun _ => ?_)
  refine lv_aload hx hb dL_law_1031 (lv_at hl 0 rfl) ?_
  refine lv_iconst (v := nI 0) hx hb dL_law_1033 (by decide) ?_
  refine lv_iconst (v := nI 5) hx hb dL_law_1034 (by decide) ?_
  obtain ⟨bqz, hGz, h25z, hbkz, hk5z, hchz, hHbz, hhsz, hSvbz, htyz, hIn7z, hlnz, hLez, hwyz⟩ := id hFz
  have hHwz : ∀ j, j < _ → hAt _ j 0 ≤ 8 ∧ hAt _ j 1 ≤ 6 ∧ hAt _ j 2 ≤ 5 := fun j hj => ⟨(hHbz j hj).2.2.1, (hHbz j hj).2.2.2.1, (hHbz j hj).2.2.2.2.1⟩
  have hbbz : bqz + 1 < 2 ^ 20 := by omega
  have hb32z : bqz + 32 < 2 ^ 20 := by omega
  have h13z : bqz < 8192 := by omega
  refine nv_kLX (vx_runV (As := [.int (nI 0), .int (nI 5)]) (rest := []) ⟨hx, hb, hml, hown, hts⟩ (c_X6_doorOf l hl9 (A := cRg ADz 0 165) hGz hIz cRg_self (nI 0) (nI 5)) (cwV 2 hts gL_law_X6_doorOf rfl rfl rfl (by decide +kernel) ⟨Nat.le_of_ble_eq_true rfl, Nat.le_of_ble_eq_true rfl⟩) (nt_pVn hT hS hsz hPz (va_recv hT.1.1 hPz.1 (ci := 8) (q0 := 0) rfl rfl)) rfl rfl hl.1 rfl (lv_room (Nat.le_of_ble_eq_true rfl)) dL_law_1035 ⟨Nat.le_of_ble_eq_true rfl, Nat.le_of_ble_eq_true rfl⟩) hS hsz (fun E ce q9 H1 locs1 h0 hE hP1 hK1 hS1 hcell hv9 hcl => absurd ((if_pos (show iR (nI 0) ((zT6 g) 0) from by rw [show (zT6 g) 0 = 2 from rfl]; decide)).trans (if_pos (by decide))) h0) (fun H locs h0 hPz hK hS => ?_)
  refine nv_to 0 (by rw [if_pos (show iR (nI 0) ((zT6 g) 0) from by rw [show (zT6 g) 0 = 2 from rfl]; decide), if_pos (show iR (nI 5) 11 by decide), tN_nI (k := 0) (by decide), tN_nI (k := 5) (by decide)]; exact congrArg nI (z6_f g hg).1) ?_
  have hPx := xV_keep hPx hK hzx
  refine nv_if_eq (tgt := 1043) hx hb dL_law_1038 (by decide) (by omega) (fun _ => ?_) (fun c9 => absurd (by decide) c9)
  refine W.widen (k := 2000 * 9) (n := 20000 * 9) (Nat.le_of_ble_eq_true rfl) (Nat.le_of_ble_eq_true rfl) ?_
  exact kz _ _ _ _ hFz H locs ls ⟨hPx, hPz⟩ hS hl
