/-- the script's house from now on: but its house nothing of it is told -/
def xV (D : va_G) (cI cC cD cR : ClassId) (AD : Nat → Nat) (k : Nat) (G : Nat → Nat) (H : Heap) : Prop := ∃ (Hi In : Nat → Nat) (ch wy : Nat) (ea ra wd : Int32), lF k G G Hi In qZ 1 ch 0 wy 0 ∧ cW D cI cC cD cR AD G G Hi In qZ 1 ch 0 wy 0 ea ra wd H
theorem xV_keep {D : va_G} {cI cC cD cR : ClassId} {AD AE G : Nat → Nat} {k : Nat} {H H1 : Heap} (h : xV D cI cC cD cR AE k G H) (hK : cFr (cRg AD 0 165) H H1) (hn : ∀ i j, i < 165 → j < 165 → AD i ≠ AE j) : xV D cI cC cD cR AE k G H1 := by
  obtain ⟨Hi, In, ch, wy, ea, ra, wd, h1, h2⟩ := h
  exact ⟨Hi, In, ch, wy, ea, ra, wd, h1, cW_keep h2 hK hn⟩
theorem xV_grow {D : va_G} {cI cC cD cR : ClassId} {AE G : Nat → Nat} {k : Nat} {H H1 : Heap} (h : xV D cI cC cD cR AE k G H) (hK : cFr (aN H.size) H H1) : xV D cI cC cD cR AE k G H1 := by
  obtain ⟨Hi, In, ch, wy, ea, ra, wd, h1, h2⟩ := h
  exact ⟨Hi, In, ch, wy, ea, ra, wd, h1, cW_grow h2 hK⟩
theorem xV_lt {D : va_G} {cI cC cD cR : ClassId} {AE G : Nat → Nat} {k : Nat} {H : Heap} (h : xV D cI cC cD cR AE k G H) : ∀ i, i < 165 → AE i < H.size := by
  obtain ⟨Hi, In, ch, wy, ea, ra, wd, h1, h2⟩ := h
  exact cW_lt h2
theorem zW_lt {D : va_G} {cI cC cD cR : ClassId} {AE G Sv In Le : Nat → Nat} {k hs ty wy ln : Nat} {ea ra wd : Int32} {H : Heap} (h : zW D cI cC cD cR AE k G Sv In Le hs ty wy ln ea ra wd H) : ∀ i, i < 165 → AE i < H.size := by
  obtain ⟨Hi, ch, h1, h2⟩ := h
  exact cW_lt h2
set_option maxHeartbeats 4000000 in
set_option maxRecDepth 100000 in
theorem law_D {p0 : Program} {e0 : Env} {s : State} {m0 : MethodId} {below : List Frame} {meth : Method} {c0 : Code} {Q : State → Prop} {l : Launch} {b9 L : Nat} {xs : Nat → Int32} {D : va_G} {cI cC cD cR cB : ClassId} {sa : sA} (hC : lwC p0 l s m0 c0 b9 L xs D cI cC cD cR cB sa) {G Hi In : Nat → Nat} {ch wy w : Nat} {wd : Int32} {ADx : Nat → Nat} (hIx : cInj ADx) (hAx : ∀ i, i < 165 → s.heap.size ≤ ADx i) {ADy : Nat → Nat} (hw : G 11 = w) (h26 : w < 26) (hFx : lF 147 G G Hi In qZ 1 ch 0 wy 0) (kz : ∀ (In : Nat → Nat), lF 165 G G Hi In qZ 1 ch 0 2 0 → ∀ (H : Heap) (locs : List Loc) (ls : Array Slot), cW D cI cC cD cR ADx G G Hi In qZ 1 ch 0 2 0 (-1) (nI 1) (nI (oW w)) H → va_S (aN s.heap.size) s.heap H locs → lv_has ls 13 [(6, .int (nI (97 + oW w))), (5, .int (nI (97 + w))), (4, .int (stF G)), (3, .int (nI (G 0))), (2, .ref (ADy 0)), (1, .ref (ADx 0)), (0, .ref b9)] → W p0 l e0 room_1 s m0 #[Value.ref b9] below meth c0 H locs (2000 * 4) (20000 * 4) Q (F0 m0 287 ls [])) : ∀ (H : Heap) (locs : List Loc) (ls : Array Slot), cW D cI cC cD cR ADx G G Hi In qZ 1 ch 0 wy 0 (-1) (-1) wd H → va_S (aN s.heap.size) s.heap H locs → lv_has ls 13 [(6, .int (nI (97 + oW w))), (5, .int (nI (97 + w))), (4, .int (stF G)), (3, .int (nI (G 0))), (2, .ref (ADy 0)), (1, .ref (ADx 0)), (0, .ref b9)] → W p0 l e0 room_1 s m0 #[Value.ref b9] below meth c0 H locs (2000 * 3) (20000 * 3) Q (F0 m0 203 ls []) := by
  obtain ⟨hx, hb, hml, hown, hts, hl9, hXs, hbl, hL, hT, hX⟩ := id hC
  rintro H locs ls hPx hS hl
  have hsx : ∀ q, cRg ADx 0 165 q → aN s.heap.size q := cRg_A hAx (Nat.le_refl _)
  have how := oW_lt w
  refine lv_aload_n hx hb dL_law_203 rfl (lv_at hl 5 rfl) ?_
  rename Heap => K3
  have hltx := cW_lt hPx
  refine va_forget (fun q hq => hS.2.2 q hq) ?_
  have hn9 : s.heap.size ≤ K3.size := hS.1
  refine va_new (D := D) (ci := 9) (C := RJ4) (T := TJ4) (N := 4) (fs := [.null, .int (nI 0), .int (nI 0), .int (nI 0)]) (A := aN K3.size) (H0 := K3) (ws := []) hx hb hts wl_in_wsJ40 tyJ4 tyJ4_ok hown (hts (.classLink RL 91 RJ4) (List.mem_of_getElem? (i := 1165) (by decide +kernel))) (hts (.instantiable RJ4 4) (List.mem_of_getElem? (i := 1166) (by decide +kernel))) (hts (.initialized RJ4) (List.mem_of_getElem? (i := 58) (by decide +kernel))) hX.1.1 (fun k q h => by simp at h) ⟨fun i j p q h => by simp at h, fun k q h => by simp at h⟩ va_S.rf (fun _ h => h) rfl (fun j hj => by rcases (show j = 0 ∨ j = 1 ∨ j = 2 ∨ j = 3 by omega) with rfl | rfl | rfl | rfl <;> rfl) (Nat.le_of_ble_eq_true rfl) (Nat.le_of_ble_eq_true rfl) dL_law_204 (fun a3 H hP9 hD9 hS9 => ?_)
  have hPn : va_P D vwCl [(a3, .inr (9, [.null, .int (nI 0), .int (nI 0), .int (nI 0)]))] H := hP9
  have ha9 : K3.size ≤ a3 := hD9.2 0 _ rfl
  have hFr : ∀ q : Nat, q < K3.size → H[q]? = K3[q]? := fun q hq => hS9.2.1 q hq (Nat.not_le.mpr hq)
  have hSz : K3.size ≤ H.size := Nat.le_trans ha9 (Nat.le_of_lt (vx_lt hPn (k := 0) rfl))
  have hS : va_S (aN s.heap.size) s.heap H [] := hS.none.trans hS9 (aN_sub hn9)
  refine lv_dup hx hb dL_law_207 rfl ?_
  refine nv_kGv (va_runI (As := []) (rest := [.ref a3, .ref (ADx 0)]) ⟨hx, hb, hml, hown, hts⟩ (c_B_init l (n0 := K3.size) ha9) ⟨callB_of 0 hts gL_law_J4_init_da8c8 rfl rfl rfl (hts (.initialized RJ4) (List.mem_of_getElem? (i := 58) (by decide +kernel))) (hts (.methodLink RL 93 yJ4_init_da8c8) (List.mem_of_getElem? (i := 1167) (by decide +kernel))) (by decide +kernel) ⟨Nat.le_of_ble_eq_true rfl, Nat.le_of_ble_eq_true rfl⟩, rfl, (hts (.instanceMethod yJ4_init_da8c8) (List.mem_of_getElem? (i := 1168) (by decide +kernel)))⟩ (nx_pS hT hX.1 tx0 hS (aN_sub hn9) hPn) rfl rfl hl.1 rfl (lv_room (Nat.le_of_ble_eq_true rfl)) dL_law_208 ⟨Nat.le_of_ble_eq_true rfl, Nat.le_of_ble_eq_true rfl⟩) hS (aN_sub hn9) (fun H locs hPn hK hS => ?_)
  have hFr : ∀ q : Nat, q < K3.size → H[q]? = K3[q]? := fun q hq => (hK q (Nat.lt_of_lt_of_le hq hSz) (Nat.not_le.mpr hq)).trans (hFr q hq)
  have hSz : K3.size ≤ H.size := hPn.lt
  obtain ⟨r124, v124, hZ124, hL124⟩ := hX.2.2 (124, "end0Sd=", [101, 110, 100, 48, 83, 100, 61]) (by decide)
  refine va_ldcS hx hb hown hZ124 dL_law_211 ?_
  refine nv_kGr2 (va_runV (As := [.ref r124]) (rest := [.ref (ADx 0)]) ⟨hx, hb, hml, hown, hts⟩ (c_B_appS l (n0 := K3.size) (r := r124) (v := v124) (L := [101, 110, 100, 48, 83, 100, 61]) (L0 := []) (Nat.le_of_ble_eq_true rfl)) (cwV 1 hts gL_law_J4_append_15ec4 rfl rfl rfl (by decide +kernel) ⟨Nat.le_of_ble_eq_true rfl, Nat.le_of_ble_eq_true rfl⟩) (nx_pV hT hX.1 (tx1 (hL124.go hS (aN_sub hn9))) hS (aN_sub hn9) hPn (sbP.recv hX.1 hPn)) rfl rfl hl.1 rfl (lv_room (Nat.le_of_ble_eq_true rfl)) dL_law_213 ⟨Nat.le_of_ble_eq_true rfl, Nat.le_of_ble_eq_true rfl⟩) hS (aN_sub hn9) (fun H locs hPn hK hS => ?_)
  have hPn : sbP D cB K3.size a3 [101, 110, 100, 48, 83, 100, 61] H := hPn
  have hFr : ∀ q : Nat, q < K3.size → H[q]? = K3[q]? := fun q hq => (hK q (Nat.lt_of_lt_of_le hq hSz) (Nat.not_le.mpr hq)).trans (hFr q hq)
  have hSz : K3.size ≤ H.size := hPn.lt
  refine lv_iload hx hb dL_law_216 (lv_at hl 0 rfl) ?_
  refine nv_kGr2 (va_runV (As := [.int (nI (97 + oW w))]) (rest := [.ref (ADx 0)]) ⟨hx, hb, hml, hown, hts⟩ (c_B_appC l (n0 := K3.size) (L0 := [101, 110, 100, 48, 83, 100, 61]) (97 + oW w) (by omega) (Nat.le_of_ble_eq_true rfl)) (cwV 1 hts gL_law_J4_append_cf468 rfl rfl rfl (by decide +kernel) ⟨Nat.le_of_ble_eq_true rfl, Nat.le_of_ble_eq_true rfl⟩) (nx_pV hT hX.1 tx0 hS (aN_sub hn9) hPn (sbP.recv hX.1 hPn)) rfl rfl hl.1 rfl (lv_room (Nat.le_of_ble_eq_true rfl)) dL_law_218 ⟨Nat.le_of_ble_eq_true rfl, Nat.le_of_ble_eq_true rfl⟩) hS (aN_sub hn9) (fun H locs hPn hK hS => ?_)
  have hPn : sbP D cB K3.size a3 [101, 110, 100, 48, 83, 100, 61, 97 + oW w] H := hPn
  have hFr : ∀ q : Nat, q < K3.size → H[q]? = K3[q]? := fun q hq => (hK q (Nat.lt_of_lt_of_le hq hSz) (Nat.not_le.mpr hq)).trans (hFr q hq)
  have hSz : K3.size ≤ H.size := hPn.lt
  obtain ⟨r126, v126, hZ126, hL126⟩ := hX.2.2 (126, ";end0Sd=", [59, 101, 110, 100, 48, 83, 100, 61]) (by decide)
  refine va_ldcS hx hb hown hZ126 dL_law_221 ?_
  refine nv_kGr2 (va_runV (As := [.ref r126]) (rest := [.ref (ADx 0)]) ⟨hx, hb, hml, hown, hts⟩ (c_B_appS l (n0 := K3.size) (r := r126) (v := v126) (L := [59, 101, 110, 100, 48, 83, 100, 61]) (L0 := [101, 110, 100, 48, 83, 100, 61, 97 + oW w]) (Nat.le_of_ble_eq_true rfl)) (cwV 1 hts gL_law_J4_append_15ec4 rfl rfl rfl (by decide +kernel) ⟨Nat.le_of_ble_eq_true rfl, Nat.le_of_ble_eq_true rfl⟩) (nx_pV hT hX.1 (tx1 (hL126.go hS (aN_sub hn9))) hS (aN_sub hn9) hPn (sbP.recv hX.1 hPn)) rfl rfl hl.1 rfl (lv_room (Nat.le_of_ble_eq_true rfl)) dL_law_223 ⟨Nat.le_of_ble_eq_true rfl, Nat.le_of_ble_eq_true rfl⟩) hS (aN_sub hn9) (fun H locs hPn hK hS => ?_)
  have hPn : sbP D cB K3.size a3 [101, 110, 100, 48, 83, 100, 61, 97 + oW w, 59, 101, 110, 100, 48, 83, 100, 61] H := hPn
  have hFr : ∀ q : Nat, q < K3.size → H[q]? = K3[q]? := fun q hq => (hK q (Nat.lt_of_lt_of_le hq hSz) (Nat.not_le.mpr hq)).trans (hFr q hq)
  have hSz : K3.size ≤ H.size := hPn.lt
  refine lv_iload hx hb dL_law_226 (lv_at hl 0 rfl) ?_
  refine nv_kGr2 (va_runV (As := [.int (nI (97 + oW w))]) (rest := [.ref (ADx 0)]) ⟨hx, hb, hml, hown, hts⟩ (c_B_appC l (n0 := K3.size) (L0 := [101, 110, 100, 48, 83, 100, 61, 97 + oW w, 59, 101, 110, 100, 48, 83, 100, 61]) (97 + oW w) (by omega) (Nat.le_of_ble_eq_true rfl)) (cwV 1 hts gL_law_J4_append_cf468 rfl rfl rfl (by decide +kernel) ⟨Nat.le_of_ble_eq_true rfl, Nat.le_of_ble_eq_true rfl⟩) (nx_pV hT hX.1 tx0 hS (aN_sub hn9) hPn (sbP.recv hX.1 hPn)) rfl rfl hl.1 rfl (lv_room (Nat.le_of_ble_eq_true rfl)) dL_law_228 ⟨Nat.le_of_ble_eq_true rfl, Nat.le_of_ble_eq_true rfl⟩) hS (aN_sub hn9) (fun H locs hPn hK hS => ?_)
  have hPn : sbP D cB K3.size a3 [101, 110, 100, 48, 83, 100, 61, 97 + oW w, 59, 101, 110, 100, 48, 83, 100, 61, 97 + oW w] H := hPn
  have hFr : ∀ q : Nat, q < K3.size → H[q]? = K3[q]? := fun q hq => (hK q (Nat.lt_of_lt_of_le hq hSz) (Nat.not_le.mpr hq)).trans (hFr q hq)
  have hSz : K3.size ≤ H.size := hPn.lt
  refine nv_kGn (va_runV (As := []) (rest := [.ref (ADx 0)]) ⟨hx, hb, hml, hown, hts⟩ (c_B_toString l (n0 := K3.size) (L0 := [101, 110, 100, 48, 83, 100, 61, 97 + oW w, 59, 101, 110, 100, 48, 83, 100, 61, 97 + oW w]) (Nat.le_of_ble_eq_true rfl)) (cwV 0 hts gL_law_J4_toString_0e30d rfl rfl rfl (by decide +kernel) ⟨Nat.le_of_ble_eq_true rfl, Nat.le_of_ble_eq_true rfl⟩) (nx_pV hT hX.1 tx0 hS (aN_sub hn9) hPn (sbP.recv hX.1 hPn)) rfl rfl hl.1 rfl (lv_room (Nat.le_of_ble_eq_true rfl)) dL_law_231 ⟨Nat.le_of_ble_eq_true rfl, Nat.le_of_ble_eq_true rfl⟩) hS (aN_sub hn9) (fun t3 H locs hPn hK hS => ?_)
  have hFr : ∀ q : Nat, q < K3.size → H[q]? = K3[q]? := fun q hq => (hK q (Nat.lt_of_lt_of_le hq hSz) (Nat.not_le.mpr hq)).trans (hFr q hq)
  have hPx := cW_grow hPx (fun q hq _ => hFr q hq)
  have hst3 : stP D cB K3.size [101, 110, 100, 48, 83, 100, 61, 97 + oW w, 59, 101, 110, 100, 48, 83, 100, 61, 97 + oW w] t3 H := hPn
  have hTo3 : okT (T2 (oW w) (oW w)) := okT_T2 how.1 how.1
  obtain ⟨u3, hxt3⟩ := tx_made hL124 hT.1.1 hX.1 hst3 (Nat.le_of_ble_eq_true rfl) hTo3 hltx
  have hxt3 : tx (cRg ADx 0 165) (t3, u3, T2 (oW w) (oW w)) s H := hxt3
  refine nv_kNv (vx_runS (As := [.ref (ADx 0), .ref t3]) (rest := []) ⟨hx, hb, hml, hown, hts⟩ (c_L_put l hl9 hIx (k := 0) hTo3 (ty := 0) (Nat.le_of_ble_eq_true rfl)) (va_cwS 2 hts gL_law_L_put rfl rfl rfl (by decide +kernel) ⟨Nat.le_of_ble_eq_true rfl, Nat.le_of_ble_eq_true rfl⟩) (nl_pS hT hX (tx1 hxt3) hS hsx hPx) rfl rfl hl.1 rfl (lv_room (Nat.le_of_ble_eq_true rfl)) dL_law_234 ⟨Nat.le_of_ble_eq_true rfl, Nat.le_of_ble_eq_true rfl⟩) hS hsx (fun H locs hPx hK hS => ?_)
  have hPx : cW D cI cC cD cR ADx G G Hi (wrL (T2 (oW w) (oW w)) In 0) qZ 1 ch 17 wy 0 (-1) (-1) wd H := hPx
  have hFx : lF 164 G G Hi (wrL (T2 (oW w) (oW w)) In 0) qZ 1 ch 17 wy 0 := hFx.wrAll hTo3 (Nat.le_of_ble_eq_true rfl) (Nat.le_of_ble_eq_true rfl)
  obtain ⟨m1, m2, m3, m4, m5⟩ := x2_all hw h26 In
  have m6 : vWy (vS (wrL (T2 (oW w) (oW w)) In 0) 17 G 1) wy = 2 := by unfold vWy; rw [m4]; rfl
  have m7 : vWd (vS (wrL (T2 (oW w) (oW w)) In 0) 17 G 1) wd = nI (oW w) := by unfold vWd; rw [m4, m5]; rfl
  refine lv_aload_n hx hb dL_law_237 rfl (lv_at hl 5 rfl) ?_
  refine nv_kN (vx_runSX (hh := [(0, 4, 5, 77), (0, 4, 8, 75)]) (As := [.ref (ADx 0)]) (rest := []) ⟨hx, hb, hml, hown, hts⟩ (c_L_runs l hl9 hIx hFx) (vx_cwSW 1 hts gL_law_L_runs rfl rfl rfl (by decide +kernel) ⟨Nat.le_of_ble_eq_true rfl, Nat.le_of_ble_eq_true rfl⟩) (nl_pS hT hX tx0 hS hsx hPx) rfl rfl hl.1 rfl (lv_room (Nat.le_of_ble_eq_true rfl)) dL_law_238 ⟨Nat.le_of_ble_eq_true rfl, Nat.le_of_ble_eq_true rfl⟩) hS hsx (fun H locs hPx hK hS => ?_)
  refine nv_toi (-2) (rdV_ref 1 m1 m2 m3 (by decide)) ?_
  have hPx : cW D cI cC cD cR ADx G G Hi (wrL (T2 (oW w) (oW w)) In 0) qZ 1 ch 0 2 0 (-1) (nI 1) (nI (oW w)) H := rdW_ref 1 m1 m2 m3 (by decide) m6 m7 hPx
  have hFx : lF 165 G G Hi (wrL (T2 (oW w) (oW w)) In 0) qZ 1 ch 0 2 0 := rdF_ref 1 m1 m2 m3 (by decide) m6 hFx (by decide)
  refine lv_bipush (v := (-2)) hx hb dL_law_241 (by decide) ?_
  refine lv_icmp_ne (tgt := 285) hx hb dL_law_243 (by decide) (fun c9 => absurd rfl c9) (fun _ => ?_)
  refine lv_aload_n hx hb dL_law_246 rfl (lv_at hl 5 rfl) ?_
  refine nv_kLX (vx_runV (As := []) (rest := []) ⟨hx, hb, hml, hown, hts⟩ (c_N6_refusedItem l hl9 (A := cRg ADx 0 165) (b := 0)) (cwV 0 hts gL_law_X6_refusedItem rfl rfl rfl (by decide +kernel) ⟨Nat.le_of_ble_eq_true rfl, Nat.le_of_ble_eq_true rfl⟩) (nt_pVn hT hS hsx hPx (va_recv hT.1.1 hPx.1 (ci := 8) (q0 := 0) rfl rfl)) rfl rfl hl.1 rfl (lv_room (Nat.le_of_ble_eq_true rfl)) dL_law_247 ⟨Nat.le_of_ble_eq_true rfl, Nat.le_of_ble_eq_true rfl⟩) hS hsx (fun E ce q9 H1 locs1 h0 hE hP1 hK1 hS1 hcell hv9 hcl => absurd (if_neg (nI_ne_m1 1 (by decide))) h0) (fun H locs h0 hPx hK hS => ?_)
  refine nv_to 1 (if_neg (nI_ne_m1 1 (by decide))) ?_
  refine lv_iconst (v := nI 1) hx hb dL_law_250 (by decide) ?_
  refine nv_icmp_ne (tgt := 285) hx hb dL_law_251 (by decide) (by omega) (by omega) (fun c9 => absurd rfl c9) (fun _ => ?_)
  refine lv_aload_n hx hb dL_law_254 rfl (lv_at hl 5 rfl) ?_
  refine lv_iconst (v := nI 0) hx hb dL_law_255 (by decide) ?_
  refine nv_kLX (vx_runV (As := [.int (nI 0)]) (rest := []) ⟨hx, hb, hml, hown, hts⟩ (c_X6_refusal l hl9 (A := cRg ADx 0 165) (b := 0) 0 (by decide) (by decide)) (cwV 1 hts gL_law_X6_refusal rfl rfl rfl (by decide +kernel) ⟨Nat.le_of_ble_eq_true rfl, Nat.le_of_ble_eq_true rfl⟩) (nt_pVn hT hS hsx hPx (va_recv hT.1.1 hPx.1 (ci := 8) (q0 := 0) rfl rfl)) rfl rfl hl.1 rfl (lv_room (Nat.le_of_ble_eq_true rfl)) dL_law_256 ⟨Nat.le_of_ble_eq_true rfl, Nat.le_of_ble_eq_true rfl⟩) hS hsx (fun E ce q9 H1 locs1 h0 hE hP1 hK1 hS1 hcell hv9 hcl => absurd (if_neg (by decide)) h0) (fun H locs h0 hPx hK hS => ?_)
  refine nv_to 2 (by rw [if_neg (show ¬ (2 : Nat) = 0 by decide), if_pos rfl]) ?_
  refine lv_iconst (v := nI 2) hx hb dL_law_259 (by decide) ?_
  refine nv_icmp_ne (tgt := 285) hx hb dL_law_260 (by decide) (by omega) (by omega) (fun c9 => absurd rfl c9) (fun _ => ?_)
  refine lv_aload_n hx hb dL_law_263 rfl (lv_at hl 5 rfl) ?_
  refine lv_iconst (v := nI 1) hx hb dL_law_264 (by decide) ?_
  refine nv_kLX (vx_runV (As := [.int (nI 1)]) (rest := []) ⟨hx, hb, hml, hown, hts⟩ (c_X6_refusal l hl9 (A := cRg ADx 0 165) (b := 0) 1 (by decide) (by decide)) (cwV 1 hts gL_law_X6_refusal rfl rfl rfl (by decide +kernel) ⟨Nat.le_of_ble_eq_true rfl, Nat.le_of_ble_eq_true rfl⟩) (nt_pVn hT hS hsx hPx (va_recv hT.1.1 hPx.1 (ci := 8) (q0 := 0) rfl rfl)) rfl rfl hl.1 rfl (lv_room (Nat.le_of_ble_eq_true rfl)) dL_law_265 ⟨Nat.le_of_ble_eq_true rfl, Nat.le_of_ble_eq_true rfl⟩) hS hsx (fun E ce q9 H1 locs1 h0 hE hP1 hK1 hS1 hcell hv9 hcl => absurd (if_neg (by decide)) h0) (fun H locs h0 hPx hK hS => ?_)
  refine nv_to (oW w) (by rw [if_neg (show ¬ (2 : Nat) = 0 by decide), if_neg (show ¬ (1 : Nat) = 0 by decide)]) ?_
  refine lv_iload hx hb dL_law_268 (lv_at hl 0 rfl) ?_
  refine lv_bipush (v := nI 97) hx hb dL_law_270 (by decide) ?_
  refine nv_isub hx hb dL_law_272 (by omega) ?_
  refine nv_to (oW w) (congrArg nI (by omega)) ?_
  refine nv_icmp_ne (tgt := 285) hx hb dL_law_273 (by decide) (by omega) (by omega) (fun c9 => absurd rfl c9) (fun _ => ?_)
  refine lv_aload_n hx hb dL_law_276 rfl (lv_at hl 5 rfl) ?_
  refine nv_kN (vx_runS (As := [.ref (ADx 0)]) (rest := []) ⟨hx, hb, hml, hown, hts⟩ (c_L_state l hl9 hIx hFx) (va_cwS 1 hts gL_law_L_state rfl rfl rfl (by decide +kernel) ⟨Nat.le_of_ble_eq_true rfl, Nat.le_of_ble_eq_true rfl⟩) (nl_pS hT hX tx0 hS hsx hPx) rfl rfl hl.1 rfl (lv_room (Nat.le_of_ble_eq_true rfl)) dL_law_277 ⟨Nat.le_of_ble_eq_true rfl, Nat.le_of_ble_eq_true rfl⟩) hS hsx (fun H locs hPx hK hS => ?_)
  refine lv_iload hx hb dL_law_280 (lv_at hl 2 rfl) ?_
  refine lv_icmp_eq (tgt := 287) hx hb dL_law_282 (by decide) (fun _ => ?_) (fun c9 => absurd rfl c9)
  refine W.widen (k := 2000 * 4) (n := 20000 * 4) (Nat.le_of_ble_eq_true rfl) (Nat.le_of_ble_eq_true rfl) ?_
  exact kz _ hFx H locs ls hPx hS hl
set_option maxHeartbeats 4000000 in
set_option maxRecDepth 100000 in
theorem law_E {p0 : Program} {e0 : Env} {s : State} {m0 : MethodId} {below : List Frame} {meth : Method} {c0 : Code} {Q : State → Prop} {l : Launch} {b9 L : Nat} {xs : Nat → Int32} {D : va_G} {cI cC cD cR cB : ClassId} {sa : sA} (hC : lwC p0 l s m0 c0 b9 L xs D cI cC cD cR cB sa) {G Hi In : Nat → Nat} {ch w : Nat} {ADx : Nat → Nat} (hIx : cInj ADx) (hAx : ∀ i, i < 165 → s.heap.size ≤ ADx i) {ADy : Nat → Nat} (hFx : lF 165 G G Hi In qZ 1 ch 0 2 0) (kz : ∀ (In : Nat → Nat), lF 176 G G Hi In qZ 1 ch 0 2 0 → ∀ (H : Heap) (locs : List Loc) (ls : Array Slot), cW D cI cC cD cR ADx G G Hi In qZ 1 ch 0 2 0 (-1) (nI 0) (nI (oW w)) H → va_S (aN s.heap.size) s.heap H locs → lv_has ls 13 [(6, .int (nI (97 + oW w))), (5, .int (nI (97 + w))), (4, .int (stF G)), (3, .int (nI (G 0))), (2, .ref (ADy 0)), (1, .ref (ADx 0)), (0, .ref b9)] → W p0 l e0 room_1 s m0 #[Value.ref b9] below meth c0 H locs (2000 * 5) (20000 * 5) Q (F0 m0 342 ls [])) : ∀ (H : Heap) (locs : List Loc) (ls : Array Slot), cW D cI cC cD cR ADx G G Hi In qZ 1 ch 0 2 0 (-1) (nI 1) (nI (oW w)) H → va_S (aN s.heap.size) s.heap H locs → lv_has ls 13 [(6, .int (nI (97 + oW w))), (5, .int (nI (97 + w))), (4, .int (stF G)), (3, .int (nI (G 0))), (2, .ref (ADy 0)), (1, .ref (ADx 0)), (0, .ref b9)] → W p0 l e0 room_1 s m0 #[Value.ref b9] below meth c0 H locs (2000 * 4) (20000 * 4) Q (F0 m0 287 ls []) := by
  obtain ⟨hx, hb, hml, hown, hts, hl9, hXs, hbl, hL, hT, hX⟩ := id hC
  rintro H locs ls hPx hS hl
  have hsx : ∀ q, cRg ADx 0 165 q → aN s.heap.size q := cRg_A hAx (Nat.le_refl _)
  have how := oW_lt w
  obtain ⟨bqx, hGx, h25x, hbkx, hk5x, hchx, hHbx, hhsx, hSvbx, htyx, hIn7x, hlnx, hLex, hwyx⟩ := id hFx
  have hHwx : ∀ j, j < _ → hAt _ j 0 ≤ 8 ∧ hAt _ j 1 ≤ 6 ∧ hAt _ j 2 ≤ 5 := fun j hj => ⟨(hHbx j hj).2.2.1, (hHbx j hj).2.2.2.1, (hHbx j hj).2.2.2.2.1⟩
  have hbbx : bqx + 1 < 2 ^ 20 := by omega
  have hb32x : bqx + 32 < 2 ^ 20 := by omega
  have h13x : bqx < 8192 := by omega
  refine lv_aload_n hx hb dL_law_287 rfl (lv_at hl 5 rfl) ?_
  obtain ⟨r148, v148, hZ148, hL148⟩ := hX.2.2 (148, "knock9:osO", [107, 110, 111, 99, 107, 57, 58, 111, 115, 79]) (by decide)
  refine va_ldcS hx hb hown hZ148 dL_law_288 ?_
  have hxt : tx (cRg ADx 0 165) (r148, v148, T3) s H := hL148.go hS hsx
  refine nv_kNv (vx_runS (As := [.ref (ADx 0), .ref r148]) (rest := []) ⟨hx, hb, hml, hown, hts⟩ (c_L_put l hl9 hIx (k := 0) okT_T3 (ty := 0) (Nat.le_of_ble_eq_true rfl)) (va_cwS 2 hts gL_law_L_put rfl rfl rfl (by decide +kernel) ⟨Nat.le_of_ble_eq_true rfl, Nat.le_of_ble_eq_true rfl⟩) (nl_pS hT hX (tx1 hxt) hS hsx hPx) rfl rfl hl.1 rfl (lv_room (Nat.le_of_ble_eq_true rfl)) dL_law_290 ⟨Nat.le_of_ble_eq_true rfl, Nat.le_of_ble_eq_true rfl⟩) hS hsx (fun H locs hPx hK hS => ?_)
  have hPx : cW D cI cC cD cR ADx G G Hi (wrL T3 In 0) qZ 1 ch 10 2 0 (-1) (nI 1) (nI (oW w)) H := hPx
  have hFx : lF 175 G G Hi (wrL T3 In 0) qZ 1 ch 10 2 0 := hFx.wrAll okT_T3 (Nat.le_of_ble_eq_true rfl) (Nat.le_of_ble_eq_true rfl)
  obtain ⟨m1, m2, m3, m4⟩ := x3_all (G := G) hGx.2.2.1 In
  have m6 : vWy (vS (wrL T3 In 0) 10 G 0) 2 = 2 := vWy_0 m4
  have m7 : vWd (vS (wrL T3 In 0) 10 G 0) (nI (oW w)) = nI (oW w) := vWd_0 m4
  refine lv_aload_n hx hb dL_law_293 rfl (lv_at hl 5 rfl) ?_
  refine nv_kN (vx_runSX (hh := [(0, 4, 5, 77), (0, 4, 8, 75)]) (As := [.ref (ADx 0)]) (rest := []) ⟨hx, hb, hml, hown, hts⟩ (c_L_runs l hl9 hIx hFx) (vx_cwSW 1 hts gL_law_L_runs rfl rfl rfl (by decide +kernel) ⟨Nat.le_of_ble_eq_true rfl, Nat.le_of_ble_eq_true rfl⟩) (nl_pS hT hX tx0 hS hsx hPx) rfl rfl hl.1 rfl (lv_room (Nat.le_of_ble_eq_true rfl)) dL_law_294 ⟨Nat.le_of_ble_eq_true rfl, Nat.le_of_ble_eq_true rfl⟩) hS hsx (fun H locs hPx hK hS => ?_)
  refine nv_toi (-2) (rdV_ref 0 m1 m2 m3 (by decide)) ?_
  have hPx : cW D cI cC cD cR ADx G G Hi (wrL T3 In 0) qZ 1 ch 0 2 0 (-1) (nI 0) (nI (oW w)) H := rdW_ref 0 m1 m2 m3 (by decide) m6 m7 hPx
  have hFx : lF 176 G G Hi (wrL T3 In 0) qZ 1 ch 0 2 0 := rdF_ref 0 m1 m2 m3 (by decide) m6 hFx (by decide)
  refine lv_bipush (v := (-2)) hx hb dL_law_297 (by decide) ?_
  refine lv_icmp_ne (tgt := 340) hx hb dL_law_299 (by decide) (fun c9 => absurd rfl c9) (fun _ => ?_)
  refine lv_aload_n hx hb dL_law_302 rfl (lv_at hl 5 rfl) ?_
  refine nv_kLX (vx_runV (As := []) (rest := []) ⟨hx, hb, hml, hown, hts⟩ (c_N6_refusedItem l hl9 (A := cRg ADx 0 165) (b := 0)) (cwV 0 hts gL_law_X6_refusedItem rfl rfl rfl (by decide +kernel) ⟨Nat.le_of_ble_eq_true rfl, Nat.le_of_ble_eq_true rfl⟩) (nt_pVn hT hS hsx hPx (va_recv hT.1.1 hPx.1 (ci := 8) (q0 := 0) rfl rfl)) rfl rfl hl.1 rfl (lv_room (Nat.le_of_ble_eq_true rfl)) dL_law_303 ⟨Nat.le_of_ble_eq_true rfl, Nat.le_of_ble_eq_true rfl⟩) hS hsx (fun E ce q9 H1 locs1 h0 hE hP1 hK1 hS1 hcell hv9 hcl => absurd (if_neg (nI_ne_m1 0 (by decide))) h0) (fun H locs h0 hPx hK hS => ?_)
  refine nv_to 0 (if_neg (nI_ne_m1 0 (by decide))) ?_
  refine nv_if_ne (tgt := 340) hx hb dL_law_306 (by decide) (by omega) (fun c9 => absurd c9 (by decide)) (fun _ => ?_)
  refine lv_aload_n hx hb dL_law_309 rfl (lv_at hl 5 rfl) ?_
  refine lv_iconst (v := nI 0) hx hb dL_law_310 (by decide) ?_
  refine nv_kLX (vx_runV (As := [.int (nI 0)]) (rest := []) ⟨hx, hb, hml, hown, hts⟩ (c_X6_refusal l hl9 (A := cRg ADx 0 165) (b := 0) 0 (by decide) (by decide)) (cwV 1 hts gL_law_X6_refusal rfl rfl rfl (by decide +kernel) ⟨Nat.le_of_ble_eq_true rfl, Nat.le_of_ble_eq_true rfl⟩) (nt_pVn hT hS hsx hPx (va_recv hT.1.1 hPx.1 (ci := 8) (q0 := 0) rfl rfl)) rfl rfl hl.1 rfl (lv_room (Nat.le_of_ble_eq_true rfl)) dL_law_311 ⟨Nat.le_of_ble_eq_true rfl, Nat.le_of_ble_eq_true rfl⟩) hS hsx (fun E ce q9 H1 locs1 h0 hE hP1 hK1 hS1 hcell hv9 hcl => absurd (if_neg (by decide)) h0) (fun H locs h0 hPx hK hS => ?_)
  refine nv_to 2 (by rw [if_neg (show ¬ (2 : Nat) = 0 by decide), if_pos rfl]) ?_
  refine lv_iconst (v := nI 2) hx hb dL_law_314 (by decide) ?_
  refine nv_icmp_ne (tgt := 340) hx hb dL_law_315 (by decide) (by omega) (by omega) (fun c9 => absurd rfl c9) (fun _ => ?_)
  refine lv_aload_n hx hb dL_law_318 rfl (lv_at hl 5 rfl) ?_
  refine lv_iconst (v := nI 1) hx hb dL_law_319 (by decide) ?_
  refine nv_kLX (vx_runV (As := [.int (nI 1)]) (rest := []) ⟨hx, hb, hml, hown, hts⟩ (c_X6_refusal l hl9 (A := cRg ADx 0 165) (b := 0) 1 (by decide) (by decide)) (cwV 1 hts gL_law_X6_refusal rfl rfl rfl (by decide +kernel) ⟨Nat.le_of_ble_eq_true rfl, Nat.le_of_ble_eq_true rfl⟩) (nt_pVn hT hS hsx hPx (va_recv hT.1.1 hPx.1 (ci := 8) (q0 := 0) rfl rfl)) rfl rfl hl.1 rfl (lv_room (Nat.le_of_ble_eq_true rfl)) dL_law_320 ⟨Nat.le_of_ble_eq_true rfl, Nat.le_of_ble_eq_true rfl⟩) hS hsx (fun E ce q9 H1 locs1 h0 hE hP1 hK1 hS1 hcell hv9 hcl => absurd (if_neg (by decide)) h0) (fun H locs h0 hPx hK hS => ?_)
  refine nv_to (oW w) (by rw [if_neg (show ¬ (2 : Nat) = 0 by decide), if_neg (show ¬ (1 : Nat) = 0 by decide)]) ?_
  refine lv_iload hx hb dL_law_323 (lv_at hl 0 rfl) ?_
  refine lv_bipush (v := nI 97) hx hb dL_law_325 (by decide) ?_
  refine nv_isub hx hb dL_law_327 (by omega) ?_
  refine nv_to (oW w) (congrArg nI (by omega)) ?_
  refine nv_icmp_ne (tgt := 340) hx hb dL_law_328 (by decide) (by omega) (by omega) (fun c9 => absurd rfl c9) (fun _ => ?_)
  refine lv_aload_n hx hb dL_law_331 rfl (lv_at hl 5 rfl) ?_
  refine nv_kN (vx_runS (As := [.ref (ADx 0)]) (rest := []) ⟨hx, hb, hml, hown, hts⟩ (c_L_state l hl9 hIx hFx) (va_cwS 1 hts gL_law_L_state rfl rfl rfl (by decide +kernel) ⟨Nat.le_of_ble_eq_true rfl, Nat.le_of_ble_eq_true rfl⟩) (nl_pS hT hX tx0 hS hsx hPx) rfl rfl hl.1 rfl (lv_room (Nat.le_of_ble_eq_true rfl)) dL_law_332 ⟨Nat.le_of_ble_eq_true rfl, Nat.le_of_ble_eq_true rfl⟩) hS hsx (fun H locs hPx hK hS => ?_)
  refine lv_iload hx hb dL_law_335 (lv_at hl 2 rfl) ?_
  refine lv_icmp_eq (tgt := 342) hx hb dL_law_337 (by decide) (fun _ => ?_) (fun c9 => absurd rfl c9)
  refine W.widen (k := 2000 * 5) (n := 20000 * 5) (Nat.le_of_ble_eq_true rfl) (Nat.le_of_ble_eq_true rfl) ?_
  exact kz _ hFx H locs ls hPx hS hl
set_option maxHeartbeats 4000000 in
set_option maxRecDepth 100000 in
theorem law_F {p0 : Program} {e0 : Env} {s : State} {m0 : MethodId} {below : List Frame} {meth : Method} {c0 : Code} {Q : State → Prop} {l : Launch} {b9 L : Nat} {xs : Nat → Int32} {D : va_G} {cI cC cD cR cB : ClassId} {sa : sA} (hC : lwC p0 l s m0 c0 b9 L xs D cI cC cD cR cB sa) {G Hi In : Nat → Nat} {ch w : Nat} {ADx : Nat → Nat} (hIx : cInj ADx) (hAx : ∀ i, i < 165 → s.heap.size ≤ ADx i) {ADy : Nat → Nat} (hFx : lF 176 G G Hi In qZ 1 ch 0 2 0) (kz : ∀ (H : Heap) (locs : List Loc) (ls : Array Slot), xV D cI cC cD cR ADx 176 G H → va_S (aN s.heap.size) s.heap H locs → lv_has ls 13 [(6, .int (nI (97 + oW w))), (5, .int (nI (97 + w))), (4, .int (stF G)), (3, .int (nI (G 0))), (2, .ref (ADy 0)), (1, .ref (ADx 0)), (0, .ref b9)] → W p0 l e0 room_1 s m0 #[Value.ref b9] below meth c0 H locs (2000 * 6) (20000 * 6) Q (F0 m0 467 ls [])) : ∀ (H : Heap) (locs : List Loc) (ls : Array Slot), cW D cI cC cD cR ADx G G Hi In qZ 1 ch 0 2 0 (-1) (nI 0) (nI (oW w)) H → va_S (aN s.heap.size) s.heap H locs → lv_has ls 13 [(6, .int (nI (97 + oW w))), (5, .int (nI (97 + w))), (4, .int (stF G)), (3, .int (nI (G 0))), (2, .ref (ADy 0)), (1, .ref (ADx 0)), (0, .ref b9)] → W p0 l e0 room_1 s m0 #[Value.ref b9] below meth c0 H locs (2000 * 5) (20000 * 5) Q (F0 m0 342 ls []) := by
  obtain ⟨hx, hb, hml, hown, hts, hl9, hXs, hbl, hL, hT, hX⟩ := id hC
  rintro H locs ls hPx hS hl
  have hsx : ∀ q, cRg ADx 0 165 q → aN s.heap.size q := cRg_A hAx (Nat.le_refl _)
  refine lv_aload_n hx hb dL_law_342 rfl (lv_at hl 5 rfl) ?_
  obtain ⟨r150, v150, hZ150, hL150⟩ := hX.2.2 (150, "sx", [115, 120]) (by decide)
  refine va_ldcS hx hb hown hZ150 dL_law_343 ?_
  refine lv_iconst (v := nI 1) hx hb dL_law_345 (by decide) ?_
  refine nv_kN (vx_runS (As := [.ref (ADx 0), .ref r150, .int (nI 1)]) (rest := []) ⟨hx, hb, hml, hown, hts⟩ (c_L_faults l hl9 hIx (ty := 0) hFx (T := [115, 120]) (by decide) (by decide) (by decide) (pl := 1) (by decide) (fl_0 _).1 (fl_0 _).2) (va_cwS 3 hts gL_law_L_faults rfl rfl rfl (by decide +kernel) ⟨Nat.le_of_ble_eq_true rfl, Nat.le_of_ble_eq_true rfl⟩) (nl_pS hT hX (tx1 (hL150.go hS hsx)) hS hsx hPx) rfl rfl hl.1 rfl (lv_room (Nat.le_of_ble_eq_true rfl)) dL_law_346 ⟨Nat.le_of_ble_eq_true rfl, Nat.le_of_ble_eq_true rfl⟩) hS hsx (fun H locs hPx hK hS => ?_)
  have hFx := lF_in hFx (wrL [115, 120] In 0)
  generalize wrL [115, 120] In 0 = I0 at hFx hPx
  refine nv_if_eq (tgt := 465) hx hb dL_law_349 (by decide) (by omega) (fun c9 => absurd c9 (by decide)) (fun _ => ?_)
  refine lv_aload_n hx hb dL_law_352 rfl (lv_at hl 5 rfl) ?_
  obtain ⟨r156, v156, hZ156, hL156⟩ := hX.2.2 (156, "door0os1", [100, 111, 111, 114, 48, 111, 115, 49]) (by decide)
  refine va_ldcS hx hb hown hZ156 dL_law_353 ?_
  refine lv_bipush (v := nI 8) hx hb dL_law_355 (by decide) ?_
  refine nv_kN (vx_runS (As := [.ref (ADx 0), .ref r156, .int (nI 8)]) (rest := []) ⟨hx, hb, hml, hown, hts⟩ (c_L_faults l hl9 hIx (ty := 0) hFx (T := [100, 111, 111, 114, 48, 111, 115, 49]) (by decide) (by decide) (by decide) (pl := 8) (by decide) (fl_1 _).1 (fl_1 _).2) (va_cwS 3 hts gL_law_L_faults rfl rfl rfl (by decide +kernel) ⟨Nat.le_of_ble_eq_true rfl, Nat.le_of_ble_eq_true rfl⟩) (nl_pS hT hX (tx1 (hL156.go hS hsx)) hS hsx hPx) rfl rfl hl.1 rfl (lv_room (Nat.le_of_ble_eq_true rfl)) dL_law_357 ⟨Nat.le_of_ble_eq_true rfl, Nat.le_of_ble_eq_true rfl⟩) hS hsx (fun H locs hPx hK hS => ?_)
  have hFx := lF_in hFx (wrL [100, 111, 111, 114, 48, 111, 115, 49] I0 0)
  generalize wrL [100, 111, 111, 114, 48, 111, 115, 49] I0 0 = I1 at hFx hPx
  refine nv_if_eq (tgt := 465) hx hb dL_law_360 (by decide) (by omega) (fun c9 => absurd c9 (by decide)) (fun _ => ?_)
  refine lv_aload_n hx hb dL_law_363 rfl (lv_at hl 5 rfl) ?_
  obtain ⟨r158, v158, hZ158, hL158⟩ := hX.2.2 (158, "set0@x", [115, 101, 116, 48, 64, 120]) (by decide)
  refine va_ldcS hx hb hown hZ158 dL_law_364 ?_
  refine lv_iconst (v := nI 5) hx hb dL_law_366 (by decide) ?_
  refine nv_kN (vx_runS (As := [.ref (ADx 0), .ref r158, .int (nI 5)]) (rest := []) ⟨hx, hb, hml, hown, hts⟩ (c_L_faults l hl9 hIx (ty := 0) hFx (T := [115, 101, 116, 48, 64, 120]) (by decide) (by decide) (by decide) (pl := 5) (by decide) (fl_2 _).1 (fl_2 _).2) (va_cwS 3 hts gL_law_L_faults rfl rfl rfl (by decide +kernel) ⟨Nat.le_of_ble_eq_true rfl, Nat.le_of_ble_eq_true rfl⟩) (nl_pS hT hX (tx1 (hL158.go hS hsx)) hS hsx hPx) rfl rfl hl.1 rfl (lv_room (Nat.le_of_ble_eq_true rfl)) dL_law_367 ⟨Nat.le_of_ble_eq_true rfl, Nat.le_of_ble_eq_true rfl⟩) hS hsx (fun H locs hPx hK hS => ?_)
  have hFx := lF_in hFx (wrL [115, 101, 116, 48, 64, 120] I1 0)
  generalize wrL [115, 101, 116, 48, 64, 120] I1 0 = I2 at hFx hPx
  refine nv_if_eq (tgt := 465) hx hb dL_law_370 (by decide) (by omega) (fun c9 => absurd c9 (by decide)) (fun _ => ?_)
  refine lv_aload_n hx hb dL_law_373 rfl (lv_at hl 5 rfl) ?_
  obtain ⟨r160, v160, hZ160, hL160⟩ := hX.2.2 (160, "kx", [107, 120]) (by decide)
  refine va_ldcS hx hb hown hZ160 dL_law_374 ?_
  refine lv_iconst (v := nI 1) hx hb dL_law_376 (by decide) ?_
  refine nv_kN (vx_runS (As := [.ref (ADx 0), .ref r160, .int (nI 1)]) (rest := []) ⟨hx, hb, hml, hown, hts⟩ (c_L_faults l hl9 hIx (ty := 0) hFx (T := [107, 120]) (by decide) (by decide) (by decide) (pl := 1) (by decide) (fl_3 _).1 (fl_3 _).2) (va_cwS 3 hts gL_law_L_faults rfl rfl rfl (by decide +kernel) ⟨Nat.le_of_ble_eq_true rfl, Nat.le_of_ble_eq_true rfl⟩) (nl_pS hT hX (tx1 (hL160.go hS hsx)) hS hsx hPx) rfl rfl hl.1 rfl (lv_room (Nat.le_of_ble_eq_true rfl)) dL_law_377 ⟨Nat.le_of_ble_eq_true rfl, Nat.le_of_ble_eq_true rfl⟩) hS hsx (fun H locs hPx hK hS => ?_)
  have hFx := lF_in hFx (wrL [107, 120] I2 0)
  generalize wrL [107, 120] I2 0 = I3 at hFx hPx
  refine nv_if_eq (tgt := 465) hx hb dL_law_380 (by decide) (by omega) (fun c9 => absurd c9 (by decide)) (fun _ => ?_)
  refine lv_aload_n hx hb dL_law_383 rfl (lv_at hl 5 rfl) ?_
  obtain ⟨r94, v94, hZ94, hL94⟩ := hX.2.2 (94, "", []) (by decide)
  refine va_ldcS hx hb hown hZ94 dL_law_384 ?_
  refine lv_iconst (v := nI 0) hx hb dL_law_386 (by decide) ?_
  refine nv_kN (vx_runS (As := [.ref (ADx 0), .ref r94, .int (nI 0)]) (rest := []) ⟨hx, hb, hml, hown, hts⟩ (c_L_faults l hl9 hIx (ty := 0) hFx (T := ([] : List Nat)) (by decide) (by decide) (by decide) (pl := 0) (by decide) (fl_4 _).1 (fl_4 _).2) (va_cwS 3 hts gL_law_L_faults rfl rfl rfl (by decide +kernel) ⟨Nat.le_of_ble_eq_true rfl, Nat.le_of_ble_eq_true rfl⟩) (nl_pS hT hX (tx1 (hL94.go hS hsx)) hS hsx hPx) rfl rfl hl.1 rfl (lv_room (Nat.le_of_ble_eq_true rfl)) dL_law_387 ⟨Nat.le_of_ble_eq_true rfl, Nat.le_of_ble_eq_true rfl⟩) hS hsx (fun H locs hPx hK hS => ?_)
  have hFx := lF_in hFx (wrL ([] : List Nat) I3 0)
  generalize wrL ([] : List Nat) I3 0 = I4 at hFx hPx
  refine nv_if_eq (tgt := 465) hx hb dL_law_390 (by decide) (by omega) (fun c9 => absurd c9 (by decide)) (fun _ => ?_)
  refine lv_aload_n hx hb dL_law_393 rfl (lv_at hl 5 rfl) ?_
  obtain ⟨r162, v162, hZ162, hL162⟩ := hX.2.2 (162, "sillA;", [115, 105, 108, 108, 65, 59]) (by decide)
  refine va_ldcS hx hb hown hZ162 dL_law_394 ?_
  refine lv_bipush (v := nI 6) hx hb dL_law_396 (by decide) ?_
  refine nv_kN (vx_runS (As := [.ref (ADx 0), .ref r162, .int (nI 6)]) (rest := []) ⟨hx, hb, hml, hown, hts⟩ (c_L_faults l hl9 hIx (ty := 0) hFx (T := [115, 105, 108, 108, 65, 59]) (by decide) (by decide) (by decide) (pl := 6) (by decide) (fl_5 _).1 (fl_5 _).2) (va_cwS 3 hts gL_law_L_faults rfl rfl rfl (by decide +kernel) ⟨Nat.le_of_ble_eq_true rfl, Nat.le_of_ble_eq_true rfl⟩) (nl_pS hT hX (tx1 (hL162.go hS hsx)) hS hsx hPx) rfl rfl hl.1 rfl (lv_room (Nat.le_of_ble_eq_true rfl)) dL_law_398 ⟨Nat.le_of_ble_eq_true rfl, Nat.le_of_ble_eq_true rfl⟩) hS hsx (fun H locs hPx hK hS => ?_)
  have hFx := lF_in hFx (wrL [115, 105, 108, 108, 65, 59] I4 0)
  generalize wrL [115, 105, 108, 108, 65, 59] I4 0 = I5 at hFx hPx
  refine nv_if_eq (tgt := 465) hx hb dL_law_401 (by decide) (by omega) (fun c9 => absurd c9 (by decide)) (fun _ => ?_)
  refine lv_aload_n hx hb dL_law_404 rfl (lv_at hl 5 rfl) ?_
  obtain ⟨r164, v164, hZ164, hL164⟩ := hX.2.2 (164, "knock0:ox", [107, 110, 111, 99, 107, 48, 58, 111, 120]) (by decide)
  refine va_ldcS hx hb hown hZ164 dL_law_405 ?_
  refine lv_bipush (v := nI 8) hx hb dL_law_407 (by decide) ?_
  refine nv_kN (vx_runS (As := [.ref (ADx 0), .ref r164, .int (nI 8)]) (rest := []) ⟨hx, hb, hml, hown, hts⟩ (c_L_faults l hl9 hIx (ty := 0) hFx (T := [107, 110, 111, 99, 107, 48, 58, 111, 120]) (by decide) (by decide) (by decide) (pl := 8) (by decide) (fl_6 _).1 (fl_6 _).2) (va_cwS 3 hts gL_law_L_faults rfl rfl rfl (by decide +kernel) ⟨Nat.le_of_ble_eq_true rfl, Nat.le_of_ble_eq_true rfl⟩) (nl_pS hT hX (tx1 (hL164.go hS hsx)) hS hsx hPx) rfl rfl hl.1 rfl (lv_room (Nat.le_of_ble_eq_true rfl)) dL_law_409 ⟨Nat.le_of_ble_eq_true rfl, Nat.le_of_ble_eq_true rfl⟩) hS hsx (fun H locs hPx hK hS => ?_)
  have hFx := lF_in hFx (wrL [107, 110, 111, 99, 107, 48, 58, 111, 120] I5 0)
  generalize wrL [107, 110, 111, 99, 107, 48, 58, 111, 120] I5 0 = I6 at hFx hPx
  refine nv_if_eq (tgt := 465) hx hb dL_law_412 (by decide) (by omega) (fun c9 => absurd c9 (by decide)) (fun _ => ?_)
  refine lv_aload_n hx hb dL_law_415 rfl (lv_at hl 5 rfl) ?_
  obtain ⟨r166, v166, hZ166, hL166⟩ := hX.2.2 (166, "free0", [102, 114, 101, 101, 48]) (by decide)
  refine va_ldcS hx hb hown hZ166 dL_law_416 ?_
  refine lv_iconst (v := nI 5) hx hb dL_law_418 (by decide) ?_
  refine nv_kN (vx_runS (As := [.ref (ADx 0), .ref r166, .int (nI 5)]) (rest := []) ⟨hx, hb, hml, hown, hts⟩ (c_L_faults l hl9 hIx (ty := 0) hFx (T := [102, 114, 101, 101, 48]) (by decide) (by decide) (by decide) (pl := 5) (by decide) (fl_7 _).1 (fl_7 _).2) (va_cwS 3 hts gL_law_L_faults rfl rfl rfl (by decide +kernel) ⟨Nat.le_of_ble_eq_true rfl, Nat.le_of_ble_eq_true rfl⟩) (nl_pS hT hX (tx1 (hL166.go hS hsx)) hS hsx hPx) rfl rfl hl.1 rfl (lv_room (Nat.le_of_ble_eq_true rfl)) dL_law_419 ⟨Nat.le_of_ble_eq_true rfl, Nat.le_of_ble_eq_true rfl⟩) hS hsx (fun H locs hPx hK hS => ?_)
  have hFx := lF_in hFx (wrL [102, 114, 101, 101, 48] I6 0)
  generalize wrL [102, 114, 101, 101, 48] I6 0 = I7 at hFx hPx
  refine nv_if_eq (tgt := 465) hx hb dL_law_422 (by decide) (by omega) (fun c9 => absurd c9 (by decide)) (fun _ => ?_)
  refine lv_aload_n hx hb dL_law_425 rfl (lv_at hl 5 rfl) ?_
  obtain ⟨r168, v168, hZ168, hL168⟩ := hX.2.2 (168, "end0Os=A", [101, 110, 100, 48, 79, 115, 61, 65]) (by decide)
  refine va_ldcS hx hb hown hZ168 dL_law_426 ?_
  refine lv_bipush (v := nI 7) hx hb dL_law_428 (by decide) ?_
  refine nv_kN (vx_runS (As := [.ref (ADx 0), .ref r168, .int (nI 7)]) (rest := []) ⟨hx, hb, hml, hown, hts⟩ (c_L_faults l hl9 hIx (ty := 0) hFx (T := [101, 110, 100, 48, 79, 115, 61, 65]) (by decide) (by decide) (by decide) (pl := 7) (by decide) (fl_8 _).1 (fl_8 _).2) (va_cwS 3 hts gL_law_L_faults rfl rfl rfl (by decide +kernel) ⟨Nat.le_of_ble_eq_true rfl, Nat.le_of_ble_eq_true rfl⟩) (nl_pS hT hX (tx1 (hL168.go hS hsx)) hS hsx hPx) rfl rfl hl.1 rfl (lv_room (Nat.le_of_ble_eq_true rfl)) dL_law_430 ⟨Nat.le_of_ble_eq_true rfl, Nat.le_of_ble_eq_true rfl⟩) hS hsx (fun H locs hPx hK hS => ?_)
  have hFx := lF_in hFx (wrL [101, 110, 100, 48, 79, 115, 61, 65] I7 0)
  generalize wrL [101, 110, 100, 48, 79, 115, 61, 65] I7 0 = I8 at hFx hPx
  refine nv_if_eq (tgt := 465) hx hb dL_law_433 (by decide) (by omega) (fun c9 => absurd c9 (by decide)) (fun _ => ?_)
  refine lv_aload_n hx hb dL_law_436 rfl (lv_at hl 5 rfl) ?_
  obtain ⟨r170, v170, hZ170, hL170⟩ := hX.2.2 (170, "key0o1", [107, 101, 121, 48, 111, 49]) (by decide)
  refine va_ldcS hx hb hown hZ170 dL_law_437 ?_
  refine lv_iconst (v := nI 5) hx hb dL_law_439 (by decide) ?_
  refine nv_kN (vx_runS (As := [.ref (ADx 0), .ref r170, .int (nI 5)]) (rest := []) ⟨hx, hb, hml, hown, hts⟩ (c_L_faults l hl9 hIx (ty := 0) hFx (T := [107, 101, 121, 48, 111, 49]) (by decide) (by decide) (by decide) (pl := 5) (by decide) (fl_9 _).1 (fl_9 _).2) (va_cwS 3 hts gL_law_L_faults rfl rfl rfl (by decide +kernel) ⟨Nat.le_of_ble_eq_true rfl, Nat.le_of_ble_eq_true rfl⟩) (nl_pS hT hX (tx1 (hL170.go hS hsx)) hS hsx hPx) rfl rfl hl.1 rfl (lv_room (Nat.le_of_ble_eq_true rfl)) dL_law_440 ⟨Nat.le_of_ble_eq_true rfl, Nat.le_of_ble_eq_true rfl⟩) hS hsx (fun H locs hPx hK hS => ?_)
  have hFx := lF_in hFx (wrL [107, 101, 121, 48, 111, 49] I8 0)
  generalize wrL [107, 101, 121, 48, 111, 49] I8 0 = I9 at hFx hPx
  refine nv_if_eq (tgt := 465) hx hb dL_law_443 (by decide) (by omega) (fun c9 => absurd c9 (by decide)) (fun _ => ?_)
  refine lv_aload_n hx hb dL_law_446 rfl (lv_at hl 5 rfl) ?_
  obtain ⟨r172, v172, hZ172, hL172⟩ := hX.2.2 (172, "z", [122]) (by decide)
  refine va_ldcS hx hb hown hZ172 dL_law_447 ?_
  refine lv_iconst (v := nI 0) hx hb dL_law_449 (by decide) ?_
  refine nv_kN (vx_runS (As := [.ref (ADx 0), .ref r172, .int (nI 0)]) (rest := []) ⟨hx, hb, hml, hown, hts⟩ (c_L_faults l hl9 hIx (ty := 0) hFx (T := [122]) (by decide) (by decide) (by decide) (pl := 0) (by decide) (fl_10 _).1 (fl_10 _).2) (va_cwS 3 hts gL_law_L_faults rfl rfl rfl (by decide +kernel) ⟨Nat.le_of_ble_eq_true rfl, Nat.le_of_ble_eq_true rfl⟩) (nl_pS hT hX (tx1 (hL172.go hS hsx)) hS hsx hPx) rfl rfl hl.1 rfl (lv_room (Nat.le_of_ble_eq_true rfl)) dL_law_450 ⟨Nat.le_of_ble_eq_true rfl, Nat.le_of_ble_eq_true rfl⟩) hS hsx (fun H locs hPx hK hS => ?_)
  have hFx := lF_in hFx (wrL [122] I9 0)
  generalize wrL [122] I9 0 = I10 at hFx hPx
  refine nv_if_eq (tgt := 465) hx hb dL_law_453 (by decide) (by omega) (fun c9 => absurd c9 (by decide)) (fun _ => ?_)
  refine lv_aload_n hx hb dL_law_456 rfl (lv_at hl 5 rfl) ?_
  refine nv_kN (vx_runS (As := [.ref (ADx 0)]) (rest := []) ⟨hx, hb, hml, hown, hts⟩ (c_L_state l hl9 hIx hFx) (va_cwS 1 hts gL_law_L_state rfl rfl rfl (by decide +kernel) ⟨Nat.le_of_ble_eq_true rfl, Nat.le_of_ble_eq_true rfl⟩) (nl_pS hT hX tx0 hS hsx hPx) rfl rfl hl.1 rfl (lv_room (Nat.le_of_ble_eq_true rfl)) dL_law_457 ⟨Nat.le_of_ble_eq_true rfl, Nat.le_of_ble_eq_true rfl⟩) hS hsx (fun H locs hPx hK hS => ?_)
  refine lv_iload hx hb dL_law_460 (lv_at hl 2 rfl) ?_
  refine lv_icmp_eq (tgt := 467) hx hb dL_law_462 (by decide) (fun _ => ?_) (fun c9 => absurd rfl c9)
  refine W.widen (k := 2000 * 6) (n := 20000 * 6) (Nat.le_of_ble_eq_true rfl) (Nat.le_of_ble_eq_true rfl) ?_
  exact kz H locs ls ⟨_, _, _, _, _, _, _, hFx, hPx⟩ hS hl
