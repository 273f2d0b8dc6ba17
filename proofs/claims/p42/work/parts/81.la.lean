/-- what holds all along the law -/
def lwC (p0 : Program) (l : Launch) (s : State) (m0 : MethodId) (c0 : Code) (b9 L : Nat) (xs : Nat → Int32) (D : va_G) (cI cC cD cR cB : ClassId) (sa : sA) : Prop :=
  p0.tables.exec = Jvm.exec ∧ c0.code = cL_law ∧ c0.maxLocals = 13 ∧ s.vm.findClass RL = some m0.cls ∧ (∀ w ∈ lw_t2, w.before #[Value.ref b9] s = true) ∧ l.stackTraces = false ∧ va_X b9 L xs s s.heap ∧ b9 < s.heap.size ∧ L ≤ 260 ∧ kT D [(cI, .int), (cC, .char), (cD, .object "DoorDialect$Door"), (cR, .object "DoorDialect$House")] nN sa (aN s.heap.size) s s.heap ∧ lX D cB (aN s.heap.size) s s.heap
theorem aR_ref {v : V} {n : Nat} (h : v.1 = n) (hn : ¬ n = 0) : aR v n = -2 := by
  unfold aR
  rw [if_neg (fun q => hn (h.symm.trans q)), if_pos h]
theorem apart_lt {AD AE : Nat → Nat} {n : Nat} (h1 : ∀ i, i < 165 → AD i < n) (h2 : ∀ i, i < 165 → n ≤ AE i) : (∀ i j, i < 165 → j < 165 → AD i ≠ AE j) ∧ ∀ i j, i < 165 → j < 165 → AE i ≠ AD j := ⟨fun i j hi hj e => by have := h1 i hi; have := h2 j hj; omega, fun i j hi hj e => by have := h2 i hi; have := h1 j hj; omega⟩
theorem tx_made {D : va_G} {tys : List (ClassId × FieldType)} {cB : ClassId} {A : Nat → Prop} {AD : Nat → Nat} {n0 r : Nat} {L : List Nat} {s : State} {H : Heap} {q0 : tQ} (h0 : tx A q0 s s.heap) (hK : va_K D vwCl tys s) (hB : bK D cB s) (h : stP D cB n0 L r H) (h9 : L.length < 1000) (h8 : okT L) (hlt : ∀ i, i < 165 → AD i < n0) : ∃ v : Nat, tx (cRg AD 0 165) (r, v, L) s H := by
  obtain ⟨v, -, -, h1⟩ := stP.tx (A1 := cRg AD 0 165) h0 hK hB h h9 (fun c hc => Nat.lt_of_le_of_lt (h8 c hc).2 (by decide)) (fun q h1 h2 h3 => by
    obtain ⟨i, _, hi, e⟩ := h3
    have := hlt i hi
    omega)
  exact ⟨v, h1⟩
theorem gl_ok : ∀ g, g < 3 → 32 ≤ gl g ∧ gl g ≤ 126 ∧ gl g = [111, 105, 103].getD g 0 := by decide +kernel
set_option maxHeartbeats 4000000 in
set_option maxRecDepth 100000 in
theorem law_A {p0 : Program} {e0 : Env} {s : State} {m0 : MethodId} {below : List Frame} {meth : Method} {c0 : Code} {Q : State → Prop} {l : Launch} {b9 L : Nat} {xs : Nat → Int32} {D : va_G} {cI cC cD cR cB : ClassId} {sa : sA} (hC : lwC p0 l s m0 c0 b9 L xs D cI cC cD cR cB sa) (kz : ∀ (G Hi : Nat → Nat) (ch wy : Nat) (wd : Int32) (w : Nat) (ADx ADy : Nat → Nat), cInj ADx → (∀ i, i < 165 → s.heap.size ≤ ADx i) → cInj ADy → (∀ i, i < 165 → s.heap.size ≤ ADy i) → (∀ i j, i < 165 → j < 165 → ADx i ≠ ADy j) → (∀ i j, i < 165 → j < 165 → ADy i ≠ ADx j) → G 11 = w → w < 26 → lF 128 G G Hi qZ qZ 1 ch 0 wy 0 → lF 127 G qZ Hi qZ qZ 0 ch 0 wy 0 → ∀ (H : Heap) (locs : List Loc) (ls : Array Slot), (cW D cI cC cD cR ADx G G Hi qZ qZ 1 ch 0 wy 0 (-1) (-1) wd H ∧ cW D cI cC cD cR ADy G qZ Hi qZ qZ 0 ch 0 wy 0 (-1) (-1) wd H) → va_S (aN s.heap.size) s.heap H locs → lv_has ls 13 [(6, .int (nI (97 + oW w))), (5, .int (nI (97 + w))), (4, .int (stF G)), (3, .int (nI (G 0))), (2, .ref (ADy 0)), (1, .ref (ADx 0)), (0, .ref b9)] → W p0 l e0 room_1 s m0 #[Value.ref b9] below meth c0 H locs (2000 * 1) (20000 * 1) Q (F0 m0 46 ls [])) (ls : Array Slot) (hl : lv_has ls 13 [(0, .ref b9)]) : W p0 l e0 room_1 s m0 #[Value.ref b9] below meth c0 s.heap [] 0 0 Q (F0 m0 0 ls []) := by
  obtain ⟨hx, hb, hml, hown, hts, hl9, hXs, hbl, hL, hT, hX⟩ := id hC
  have hS : va_S (aN s.heap.size) s.heap s.heap [] := va_S.rf
  refine lv_aload_n hx hb dL_law_0 rfl (lv_at hl 0 rfl) ?_
  refine nv_kNn (A1 := aN s.heap.size) (vx_runS (As := [.ref b9]) (rest := []) ⟨hx, hb, hml, hown, hts⟩ (c_L_build l hl9 (n1 := s.heap.size) hL hbl) (va_cwS 1 hts gL_law_L_build rfl rfl rfl (by decide +kernel) ⟨Nat.le_of_ble_eq_true rfl, Nat.le_of_ble_eq_true rfl⟩) (nb_pS hT hX tx0 hS (aN_sub hS.1) (Nat.le_refl _) hXs hbl (Nat.not_le.mpr hbl)) rfl rfl hl.1 rfl (lv_room (Nat.le_of_ble_eq_true rfl)) dL_law_1 ⟨Nat.le_of_ble_eq_true rfl, Nat.le_of_ble_eq_true rfl⟩) hS (aN_sub hS.1) (fun r9 H locs hP hK hS => ?_)
  obtain ⟨ADx, e9, hIx, hNx, hFx, hPx⟩ := hP
  subst e9
  refine lv_astore_n (lv' := [(1, .ref (ADx 0)), (0, .ref b9)]) hx hb dL_law_4 rfl hl (by decide) rfl (fun ls hl => ?_)
  refine lv_aload_n hx hb dL_law_5 rfl (lv_at hl 1 rfl) ?_
  rename Heap => K1
  refine nv_kNn (A1 := aN K1.size) (vx_runS (As := [.ref b9]) (rest := []) ⟨hx, hb, hml, hown, hts⟩ (c_L_build l hl9 (n1 := K1.size) hL (Nat.lt_of_lt_of_le hbl hS.1)) (va_cwS 1 hts gL_law_L_build rfl rfl rfl (by decide +kernel) ⟨Nat.le_of_ble_eq_true rfl, Nat.le_of_ble_eq_true rfl⟩) (nb_pS hT hX tx0 hS (aN_sub hS.1) (Nat.le_refl _) hXs hbl (Nat.not_le.mpr hbl)) rfl rfl hl.1 rfl (lv_room (Nat.le_of_ble_eq_true rfl)) dL_law_6 ⟨Nat.le_of_ble_eq_true rfl, Nat.le_of_ble_eq_true rfl⟩) hS (aN_sub hS.1) (fun r9 H locs hP hK hS => ?_)
  obtain ⟨ADy, e9, hIy, hNy, hFy, hPy⟩ := hP
  subst e9
  refine lv_astore_n (lv' := [(2, .ref (ADy 0)), (1, .ref (ADx 0)), (0, .ref b9)]) hx hb dL_law_9 rfl hl (by decide) rfl (fun ls hl => ?_)
  have hltx := cW_lt hPx
  have hPx := cW_grow hPx hK
  obtain ⟨hxy, hyx⟩ := apart_lt hltx hNy
  have hAx : ∀ i, i < 165 → s.heap.size ≤ ADx i := hNx
  have hs1 : s.heap.size ≤ K1.size := Nat.le_trans (hNx 0 (by decide)) (Nat.le_of_lt (hltx 0 (by decide)))
  have hAy : ∀ i, i < 165 → s.heap.size ≤ ADy i := fun i hi => Nat.le_trans hs1 (hNy i hi)
  have hsx : ∀ q, cRg ADx 0 165 q → aN s.heap.size q := cRg_A hAx (Nat.le_refl _)
  have hsy : ∀ q, cRg ADy 0 165 q → aN s.heap.size q := cRg_A hAy (Nat.le_refl _)
  generalize qB9 (xZ L xs) = S at hFx hFy hPx hPy
  obtain ⟨G, Hi, ch, wy, wd⟩ := S
  have hPx : cW D cI cC cD cR ADx G qZ Hi qZ qZ 0 ch 0 wy 0 (-1) (-1) wd H := hPx
  have hPy : cW D cI cC cD cR ADy G qZ Hi qZ qZ 0 ch 0 wy 0 (-1) (-1) wd H := hPy
  have hFx : lF 127 G qZ Hi qZ qZ 0 ch 0 wy 0 := hFx
  have hFy : lF 127 G qZ Hi qZ qZ 0 ch 0 wy 0 := hFy
  obtain ⟨bqx, hGx, h25x, hbkx, hk5x, hchx, hHbx, hhsx, hSvbx, htyx, hIn7x, hlnx, hLex, hwyx⟩ := id hFx
  have hHwx : ∀ j, j < _ → hAt _ j 0 ≤ 8 ∧ hAt _ j 1 ≤ 6 ∧ hAt _ j 2 ≤ 5 := fun j hj => ⟨(hHbx j hj).2.2.1, (hHbx j hj).2.2.2.1, (hHbx j hj).2.2.2.2.1⟩
  have hbbx : bqx + 1 < 2 ^ 20 := by omega
  have hb32x : bqx + 32 < 2 ^ 20 := by omega
  have h13x : bqx < 8192 := by omega
  refine lv_aload_n hx hb dL_law_10 rfl (lv_at hl 1 rfl) ?_
  refine nv_kG (va_runV (As := []) (rest := []) ⟨hx, hb, hml, hown, hts⟩ (c_X6_snapshot l (A := cRg ADx 0 165) hGx hIx cRg_self) (cwV 0 hts gL_law_X6_snapshot rfl rfl rfl (by decide +kernel) ⟨Nat.le_of_ble_eq_true rfl, Nat.le_of_ble_eq_true rfl⟩) (nt_pVn hT hS hsx hPx (va_recv hT.1.1 hPx.1 (ci := 8) (q0 := 0) rfl rfl)) rfl rfl hl.1 rfl (lv_room (Nat.le_of_ble_eq_true rfl)) dL_law_11 ⟨Nat.le_of_ble_eq_true rfl, Nat.le_of_ble_eq_true rfl⟩) hS hsx (fun H locs hPx hK hS => ?_)
  have hPy := cW_keep hPy hK hxy
  have hFx : lF 128 G G Hi qZ qZ 1 ch 0 wy 0 := hFx.snapshot (by decide)
  obtain ⟨bqx, hGx, h25x, hbkx, hk5x, hchx, hHbx, hhsx, hSvbx, htyx, hIn7x, hlnx, hLex, hwyx⟩ := id hFx
  have hHwx : ∀ j, j < _ → hAt _ j 0 ≤ 8 ∧ hAt _ j 1 ≤ 6 ∧ hAt _ j 2 ≤ 5 := fun j hj => ⟨(hHbx j hj).2.2.1, (hHbx j hj).2.2.2.1, (hHbx j hj).2.2.2.2.1⟩
  have hbbx : bqx + 1 < 2 ^ 20 := by omega
  have hb32x : bqx + 32 < 2 ^ 20 := by omega
  have h13x : bqx < 8192 := by omega
  refine lv_istore_n (lv' := [(3, .int (nI (G 0))), (2, .ref (ADy 0)), (1, .ref (ADx 0)), (0, .ref b9)]) hx hb dL_law_14 rfl hl (by decide) rfl (fun ls hl => ?_)
  refine lv_aload_n hx hb dL_law_15 rfl (lv_at hl 2 rfl) ?_
  refine nv_kN (vx_runS (As := [.ref (ADx 0)]) (rest := []) ⟨hx, hb, hml, hown, hts⟩ (c_L_state l hl9 hIx hFx) (va_cwS 1 hts gL_law_L_state rfl rfl rfl (by decide +kernel) ⟨Nat.le_of_ble_eq_true rfl, Nat.le_of_ble_eq_true rfl⟩) (nl_pS hT hX tx0 hS hsx hPx) rfl rfl hl.1 rfl (lv_room (Nat.le_of_ble_eq_true rfl)) dL_law_16 ⟨Nat.le_of_ble_eq_true rfl, Nat.le_of_ble_eq_true rfl⟩) hS hsx (fun H locs hPx hK hS => ?_)
  have hPy := cW_keep hPy hK hxy
  refine lv_istore (lv' := [(4, .int (stF G)), (3, .int (nI (G 0))), (2, .ref (ADy 0)), (1, .ref (ADx 0)), (0, .ref b9)]) hx hb dL_law_19 hl (by decide) rfl (fun ls hl => ?_)
  refine lv_aload_n hx hb dL_law_21 rfl (lv_at hl 3 rfl) ?_
  refine lv_iconst (v := nI 0) hx hb dL_law_22 (by decide) ?_
  refine lv_iconst (v := nI 1) hx hb dL_law_23 (by decide) ?_
  refine lv_iconst (v := nI 1) hx hb dL_law_24 (by decide) ?_
  obtain ⟨w, hw⟩ : ∃ w, G 11 = w := ⟨_, rfl⟩
  have h26 : w < 26 := by have := hGx.2.2.2.2.2.1 3 (by decide); rw [show 8 + 3 = 11 from rfl, hw] at this; omega
  refine nv_kLX (vx_runV (As := [.int (nI 0), .int (nI 1), .int (nI 1)]) (rest := []) ⟨hx, hb, hml, hown, hts⟩ (c_X6_ending l hl9 (A := cRg ADx 0 165) hGx hIx cRg_self (nI 0) (nI 1) 1 (by decide)) (cwV 3 hts gL_law_X6_ending rfl rfl rfl (by decide +kernel) ⟨Nat.le_of_ble_eq_true rfl, Nat.le_of_ble_eq_true rfl⟩) (nt_pVn hT hS hsx hPx (va_recv hT.1.1 hPx.1 (ci := 8) (q0 := 0) rfl rfl)) rfl rfl hl.1 rfl (lv_room (Nat.le_of_ble_eq_true rfl)) dL_law_25 ⟨Nat.le_of_ble_eq_true rfl, Nat.le_of_ble_eq_true rfl⟩) hS hsx (fun E ce q9 H1 locs1 h0 hE hP1 hK1 hS1 hcell hv9 hcl => absurd (if_pos ⟨by decide, by decide⟩) h0) (fun H locs h0 hPx hK hS => ?_)
  refine nv_to (97 + w) (by rw [if_pos ⟨by decide, by decide⟩, show gEndAt (tN (nI 0)) (tN (nI 1)) 1 = 11 from by decide, hw]) ?_
  have hPy := cW_keep hPy hK hxy
  refine lv_istore (lv' := [(5, .int (nI (97 + w))), (4, .int (stF G)), (3, .int (nI (G 0))), (2, .ref (ADy 0)), (1, .ref (ADx 0)), (0, .ref b9)]) hx hb dL_law_28 hl (by decide) rfl (fun ls hl => ?_)
  have hl := lv_sub hl [0, 1, 2, 3, 4, 5] rfl
  have hJ : ∀ v : Nat, v = 97 + oW w → W p0 l e0 room_1 s m0 #[Value.ref b9] below meth c0 H locs (2000 * 1) (20000 * 1) Q (F0 m0 44 ls [.int (nI v)]) := by
    intro v hv
    subst hv
    refine lv_istore (lv' := [(6, .int (nI (97 + oW w))), (5, .int (nI (97 + w))), (4, .int (stF G)), (3, .int (nI (G 0))), (2, .ref (ADy 0)), (1, .ref (ADx 0)), (0, .ref b9)]) hx hb dL_law_44 hl (by decide) rfl (fun ls hl => ?_)
    exact kz G Hi ch wy wd w ADx ADy hIx hAx hIy hAy hxy hyx hw h26 hFx hFy H locs ls ⟨hPx, hPy⟩ hS hl
  refine lv_iload hx hb dL_law_30 (lv_at hl 0 rfl) ?_
  refine lv_bipush (v := nI 120) hx hb dL_law_32 (by decide) ?_
  refine nv_icmp_ne (tgt := 42) hx hb dL_law_34 (by decide) (by omega) (by omega) (fun c1 => ?_) (fun c1 => ?_)
  · refine lv_bipush (v := nI 120) hx hb dL_law_42 (by decide) ?_
    refine W.widen (k := 2000 * 1) (n := 20000 * 1) (Nat.le_of_ble_eq_true rfl) (Nat.le_of_ble_eq_true rfl) ?_
    exact hJ 120 (by unfold oW; split <;> omega)
  · refine lv_bipush (v := nI 121) hx hb dL_law_37 (by decide) ?_
    refine lv_goto (tgt := 44) hx hb dL_law_39 (by decide) ?_
    refine W.widen (k := 2000 * 1) (n := 20000 * 1) (Nat.le_of_ble_eq_true rfl) (Nat.le_of_ble_eq_true rfl) ?_
    exact hJ 121 (by unfold oW; split <;> omega)
