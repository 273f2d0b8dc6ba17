set_option maxHeartbeats 1000000 in
set_option maxRecDepth 100000 in
theorem lc_clear {p : Program} {l : Launch} {e : Env} {s : State} {m : MethodId} {args : Array Value} {below : List Frame} {meth : Method} {c : Code} {H : Heap} {locs : List Loc} {Q : State → Prop} {ls : Array Slot} {D : va_G} {cI cC cD cR cL cB : ClassId} {sa : sA} {AD : Nat → Nat} {h aG aB aH aS aI aL aT o oD b9 L : Nat} {xs : Nat → Int32} {k : Nat} (hC : lC p l s m args c D cI cC cD cR cL cB sa AD h aG aB aH aS aI aL aT o oD b9 L xs) (hk : 6 * k + 6 ≤ L) (hLI : lI D cI cC cD cR cL cB AD h aG aB aH aS aI aL aT o oD k H) (hS : va_S (lAN s) s.heap H locs) (hl : lv_has ls 9 [(0, .ref b9), (1, .ref (AD 0)), (2, .ref h), (3, .ref o), (4, .ref oD), (5, .int (nI (6 * k)))])
    (K : ∀ (H1 : Heap) (locs1 : List Loc) (ls1 : Array Slot), lI D cI cC cD cR cL cB AD h aG aB aH aS aI aL aT o oD (k + 1) H1 → va_S (lAN s) s.heap H1 locs1 → lv_has ls1 9 [(0, .ref b9), (1, .ref (AD 0)), (2, .ref h), (3, .ref o), (4, .ref oD), (5, .int (nI (6 * k)))] → W p l e room_1 s m args below meth c H1 locs1 (175 + 3 * (k + 1)) (3554 + 18 * (k + 1)) Q (F0 m 2679 ls1 [])) : W p l e room_1 s m args below meth c H locs (175 + 3 * k) (3554 + 18 * k) Q (F0 m 216 ls []) := by
  obtain ⟨hx, hb, hml, hown, hts, hl9, hXs, hbl, hL, hT, hX, hI, hAD, ho9, hoD9, hne, hD7⟩ := hC
  obtain ⟨G, B, Hi, Sv, In, Le, To, ch, hs, ty, wy, ln, th, sp, iw, ea, ra, wd, hP7, hcW, hF, hO, hOB⟩ := hLI
  obtain ⟨b, hG, h25, hbt, -, hch, hHg, hhs, hSg, hty, hS7, hln, hLe, hwy⟩ := id hF
  have hk512 : k < 512 := by omega
  have hbb : b + 1 < 2 ^ 20 := by omega
  have hb32 : b + 32 < 2 ^ 20 := by omega
  have h13 : b < 8192 := by omega
  have hHw : ∀ j, j < ch → hAt Hi j 0 ≤ 8 ∧ hAt Hi j 1 ≤ 6 ∧ hAt Hi j 2 ≤ 5 := fun j hj => ⟨(hHg j hj).2.2.1, (hHg j hj).2.2.2.1, (hHg j hj).2.2.2.2.1⟩
  have hSw : hs = 1 → Sv 0 ≤ 8 ∧ Sv 1 ≤ 6 ∧ Sv 2 ≤ 5 := fun q => ⟨(hSg q).2.2.1, (hSg q).2.2.2.1, (hSg q).2.2.2.2.1⟩
  have ho := ho9.2
  have hoD := hoD9.2
  have hK7 : kS D [(cI, .int), (cC, .char)] [] s := ⟨hT.1.1.sub [0, 1] rfl, fun _ h9 => nomatch h9⟩
  have hA7 : ∀ q, l7 s AD o oD q → lAN s q := fun _ h9 => h9.1
  refine lv_aload_n hx hb dL_law_216 rfl (lv_at hl 1 rfl) ?_
  refine nv_kG (va_runV (As := []) (rest := []) ⟨hx, hb, hml, hown, hts⟩ (c_X6_clear l (A := cRg AD 0 165) hG hI cRg_self) (cwV 0 hts gL_law_X6_clear rfl rfl rfl (by decide +kernel) ⟨Nat.le_of_ble_eq_true rfl, Nat.le_of_ble_eq_true rfl⟩) (nt_pVn hT hS (fun q ⟨i, _, hi, e9⟩ => by rw [e9]; exact hAD i hi) hcW (va_recv hT.1.1 hcW.1 (ci := 8) (q0 := 0) rfl rfl)) rfl rfl hl.1 rfl (lv_room (Nat.le_of_ble_eq_true rfl)) dL_law_217 ⟨(show 175 + 3 * k + 0 ≤ 603072 by omega), (show 3554 + 18 * k + 0 ≤ 7219306 by omega)⟩) hS (fun q ⟨i, _, hi, e9⟩ => by rw [e9]; exact hAD i hi) (fun H1 locs1 hP1 hK1 hS1 => ?_)
  have hcW := hP1
  have hP7 := nv_keep7 (hD7 G B Hi Sv In Le To _) hP7 hK1 (fun q h9 h8 => h9.2.1 h8)
  have hO := hO.kept hK1 ho
  have hOB := hOB.kept hK1 hoD
  have hS := hS1
  refine lv_aload_n hx hb dL_law_220 rfl (lv_at hl 2 rfl) ?_
  refine nv_kM2 (va_runV (As := []) (rest := [.int _]) ⟨hx, hb, hml, hown, hts⟩ (c_X7_clear l hD7) (cwV 0 hts gL_law_X7_clear rfl rfl rfl (by decide +kernel) ⟨Nat.le_of_ble_eq_true rfl, Nat.le_of_ble_eq_true rfl⟩) (nv_pV hK7 hP7 (va_recv hT.1.1 hP7 (ci := 9) (q0 := 0) rfl rfl)) rfl rfl hl.1 rfl (lv_room (Nat.le_of_ble_eq_true rfl)) dL_law_221 ⟨(show 175 + 3 * k + 0 + 0 ≤ 603072 by omega), (show 3554 + 18 * k + 0 + 0 ≤ 7219306 by omega)⟩) hS hA7 (fun H2 locs2 hP2 hK2 hS2 => ?_)
  have hP7 := hP2
  have hcW := cOn_W (l7 s AD o oD) _ _ (fun i _ hi h9 => h9.2.1 ⟨i, Nat.zero_le _, hi, rfl⟩) hK2 hcW
  have hO := hO.kept hK2 (fun h9 => h9.2.2.1 rfl)
  have hOB := hOB.kept hK2 (fun h9 => h9.2.2.2 rfl)
  have hS := hS2
  have hF9 := hF.clear hk512
  refine lv_icmp_eq (tgt := 2679) hx hb dL_law_224 (by decide) (fun _ => ?_) (fun h9 => absurd rfl h9)
  exact W.widen (k := 175 + 3 * (k + 1)) (n := 3554 + 18 * (k + 1)) (by omega) (by omega) (K _ _ _ ⟨_, _, _, _, _, _, _, _, _, _, _, _, _, _, _, _, _, _, hP7, hcW, hF9, hO.imp (fun _ _ => trivial), hOB.imp (fun _ _ => trivial)⟩ hS hl)

set_option maxHeartbeats 1000000 in
set_option maxRecDepth 100000 in
theorem lc_door {p : Program} {l : Launch} {e : Env} {s : State} {m : MethodId} {args : Array Value} {below : List Frame} {meth : Method} {c : Code} {H : Heap} {locs : List Loc} {Q : State → Prop} {ls : Array Slot} {D : va_G} {cI cC cD cR cL cB : ClassId} {sa : sA} {AD : Nat → Nat} {h aG aB aH aS aI aL aT o oD b9 L : Nat} {xs : Nat → Int32} {k : Nat} (hC : lC p l s m args c D cI cC cD cR cL cB sa AD h aG aB aH aS aI aL aT o oD b9 L xs) (hk : 6 * k + 6 ≤ L) (hLI : lI D cI cC cD cR cL cB AD h aG aB aH aS aI aL aT o oD k H) (hS : va_S (lAN s) s.heap H locs) (hl : lv_has ls 9 [(0, .ref b9), (1, .ref (AD 0)), (2, .ref h), (3, .ref o), (4, .ref oD), (5, .int (nI (6 * k)))])
    (K : ∀ (H1 : Heap) (locs1 : List Loc) (ls1 : Array Slot), lI D cI cC cD cR cL cB AD h aG aB aH aS aI aL aT o oD (k + 1) H1 → va_S (lAN s) s.heap H1 locs1 → lv_has ls1 9 [(0, .ref b9), (1, .ref (AD 0)), (2, .ref h), (3, .ref o), (4, .ref oD), (5, .int (nI (6 * k)))] → W p l e room_1 s m args below meth c H1 locs1 (175 + 3 * (k + 1)) (3554 + 18 * (k + 1)) Q (F0 m 2679 ls1 [])) : W p l e room_1 s m args below meth c H locs (175 + 3 * k) (3554 + 18 * k) Q (F0 m 229 ls []) := by
  obtain ⟨hx, hb, hml, hown, hts, hl9, hXs, hbl, hL, hT, hX, hI, hAD, ho9, hoD9, hne, hD7⟩ := hC
  obtain ⟨G, B, Hi, Sv, In, Le, To, ch, hs, ty, wy, ln, th, sp, iw, ea, ra, wd, hP7, hcW, hF, hO, hOB⟩ := hLI
  obtain ⟨b, hG, h25, hbt, -, hch, hHg, hhs, hSg, hty, hS7, hln, hLe, hwy⟩ := id hF
  have hk512 : k < 512 := by omega
  have hbb : b + 1 < 2 ^ 20 := by omega
  have hb32 : b + 32 < 2 ^ 20 := by omega
  have h13 : b < 8192 := by omega
  have hHw : ∀ j, j < ch → hAt Hi j 0 ≤ 8 ∧ hAt Hi j 1 ≤ 6 ∧ hAt Hi j 2 ≤ 5 := fun j hj => ⟨(hHg j hj).2.2.1, (hHg j hj).2.2.2.1, (hHg j hj).2.2.2.2.1⟩
  have hSw : hs = 1 → Sv 0 ≤ 8 ∧ Sv 1 ≤ 6 ∧ Sv 2 ≤ 5 := fun q => ⟨(hSg q).2.2.1, (hSg q).2.2.2.1, (hSg q).2.2.2.2.1⟩
  have ho := ho9.2
  have hoD := hoD9.2
  have hK7 : kS D [(cI, .int), (cC, .char)] [] s := ⟨hT.1.1.sub [0, 1] rfl, fun _ h9 => nomatch h9⟩
  have hA7 : ∀ q, l7 s AD o oD q → lAN s q := fun _ h9 => h9.1
  refine lv_aload_n hx hb dL_law_229 rfl (lv_at hl 1 rfl) ?_
  refine lv_aload_n hx hb dL_law_230 rfl (lv_at hl 0 rfl) ?_
  refine lv_iload hx hb dL_law_231 (lv_at hl 5 rfl) ?_
  refine lv_iconst (v := nI 1) hx hb dL_law_233 (by decide) ?_
  refine nv_iadd hx hb dL_law_234 ?_
  refine nv_sld hx hb hXs hbl hS (by omega) hL dL_law_235 ?_
  refine lv_aload_n hx hb dL_law_236 rfl (lv_at hl 0 rfl) ?_
  refine lv_iload hx hb dL_law_237 (lv_at hl 5 rfl) ?_
  refine lv_iconst (v := nI 2) hx hb dL_law_239 (by decide) ?_
  refine nv_iadd hx hb dL_law_240 ?_
  refine nv_sld hx hb hXs hbl hS (by omega) hL dL_law_241 ?_
  refine lv_aload_n hx hb dL_law_242 rfl (lv_at hl 0 rfl) ?_
  refine lv_iload hx hb dL_law_243 (lv_at hl 5 rfl) ?_
  refine lv_iconst (v := nI 3) hx hb dL_law_245 (by decide) ?_
  refine nv_iadd hx hb dL_law_246 ?_
  refine nv_sld hx hb hXs hbl hS (by omega) hL dL_law_247 ?_
  refine nv_bool hx hb dL_law_248 dL_law_251 dL_law_252 dL_law_255 ?_
  refine lv_aload_n hx hb dL_law_256 rfl (lv_at hl 0 rfl) ?_
  refine lv_iload hx hb dL_law_257 (lv_at hl 5 rfl) ?_
  refine lv_iconst (v := nI 4) hx hb dL_law_259 (by decide) ?_
  refine nv_iadd hx hb dL_law_260 ?_
  refine nv_sld hx hb hXs hbl hS (by omega) hL dL_law_261 ?_
  refine lv_aload_n hx hb dL_law_262 rfl (lv_at hl 0 rfl) ?_
  refine lv_iload hx hb dL_law_263 (lv_at hl 5 rfl) ?_
  refine lv_iconst (v := nI 5) hx hb dL_law_265 (by decide) ?_
  refine nv_iadd hx hb dL_law_266 ?_
  refine nv_sld hx hb hXs hbl hS (by omega) hL dL_law_267 ?_
  refine lv_aload_n hx hb dL_law_268 rfl (lv_at hl 3 rfl) ?_
  refine nv_kN (vx_runSX (hh := [(0, 16, 19, 13), (0, 16, 23, 15), (0, 16, 27, 17)]) (As := [.ref (AD 0), .int (xs (6 * k + 1)), .int (xs (6 * k + 2)), .int (nI (if xs (6 * k + 3) = 0 then 0 else 1)), .int (xs (6 * k + 4)), .int (xs (6 * k + 5)), .ref o]) (rest := []) ⟨hx, hb, hml, hown, hts⟩ (c_L_door l hl9 ho hG hI hch hHw h25 hbb (xs (6 * k + 1)) (xs (6 * k + 2)) (if xs (6 * k + 3) = 0 then 0 else 1) (xs (6 * k + 4)) (xs (6 * k + 5)) (nv_b01 _)) (vx_cwSW 7 hts gL_law_L_door rfl rfl rfl (by decide +kernel) ⟨Nat.le_of_ble_eq_true rfl, Nat.le_of_ble_eq_true rfl⟩) (nl_pS hT hX hS (fun q h9 => h9.elim (fun ⟨i, _, hi, e9⟩ => by rw [e9]; exact hAD i hi) (fun e9 => by rw [e9]; exact ho9.1)) ⟨hcW, hO⟩) rfl rfl hl.1 rfl (lv_room (Nat.le_of_ble_eq_true rfl)) dL_law_269 ⟨(show 175 + 3 * k + 1 ≤ 603072 by omega), (show 3554 + 18 * k + 6 ≤ 7219306 by omega)⟩) hS (fun q h9 => h9.elim (fun ⟨i, _, hi, e9⟩ => by rw [e9]; exact hAD i hi) (fun e9 => by rw [e9]; exact ho9.1)) (fun H1 locs1 hP1 hK1 hS1 => ?_)
  obtain ⟨hcW, hO9⟩ := hP1
  have hP7 := nv_keep7 (hD7 G B Hi Sv In Le To _) hP7 hK1 (fun q h9 h8 => h8.elim h9.2.1 (fun e9 => h9.2.2.1 e9))
  have hOB := hOB.kept hK1 (fun h8 => h8.elim hoD (fun e9 => hne e9.symm))
  have hO := hO9
  have hS := hS1
  refine lv_istore (lv' := [(6, .int (nI (((vDoor G (xs (6 * k + 1)) (xs (6 * k + 2)) (if xs (6 * k + 3) = 0 then 0 else 1) (xs (6 * k + 4)) (xs (6 * k + 5))).1)))), (0, .ref b9), (1, .ref (AD 0)), (2, .ref h), (3, .ref o), (4, .ref oD), (5, .int (nI (6 * k)))]) hx hb dL_law_272 hl (by decide) rfl (fun ls hl => ?_)
  refine lv_aload_n hx hb dL_law_274 rfl (lv_at hl 3 rfl) ?_
  refine lv_aload_n hx hb dL_law_275 rfl (lv_at hl 1 rfl) ?_
  refine lv_iload hx hb dL_law_276 (lv_at hl 6 rfl) ?_
  refine lv_iconst (v := nI 1) hx hb dL_law_278 (by decide) ?_
  refine nv_iadd hx hb dL_law_279 ?_
  refine nv_sld hx hb hXs hbl hS (by omega) hL dL_law_280 ?_
  refine lv_aload_n hx hb dL_law_281 rfl (lv_at hl 1 rfl) ?_
  refine lv_iload hx hb dL_law_282 (lv_at hl 6 rfl) ?_
  refine lv_iconst (v := nI 2) hx hb dL_law_284 (by decide) ?_
  refine nv_iadd hx hb dL_law_285 ?_
  refine nv_sld hx hb hXs hbl hS (by omega) hL dL_law_286 ?_
  refine lv_aload_n hx hb dL_law_287 rfl (lv_at hl 1 rfl) ?_
  refine lv_iload hx hb dL_law_288 (lv_at hl 6 rfl) ?_
  refine lv_iconst (v := nI 3) hx hb dL_law_290 (by decide) ?_
  refine nv_iadd hx hb dL_law_291 ?_
  refine nv_sld hx hb hXs hbl hS (by omega) hL dL_law_292 ?_
  refine nv_bool hx hb dL_law_293 dL_law_296 dL_law_297 dL_law_300 ?_
  refine lv_aload_n hx hb dL_law_301 rfl (lv_at hl 1 rfl) ?_
  refine lv_iload hx hb dL_law_302 (lv_at hl 6 rfl) ?_
  refine lv_iconst (v := nI 4) hx hb dL_law_304 (by decide) ?_
  refine nv_iadd hx hb dL_law_305 ?_
  refine nv_sld hx hb hXs hbl hS (by omega) hL dL_law_306 ?_
  refine lv_aload_n hx hb dL_law_307 rfl (lv_at hl 1 rfl) ?_
  refine lv_iload hx hb dL_law_308 (lv_at hl 6 rfl) ?_
  refine lv_iconst (v := nI 5) hx hb dL_law_310 (by decide) ?_
  refine nv_iadd hx hb dL_law_311 ?_
  refine nv_sld hx hb hXs hbl hS (by omega) hL dL_law_312 ?_
  refine nv_kM2 (va_runV (As := [.int (xs (6 * k + 1)), .int (xs (6 * k + 2)), .int (nI (if xs (6 * k + 3) = 0 then 0 else 1)), .int (xs (6 * k + 4)), .int (xs (6 * k + 5))]) (rest := []) ⟨hx, hb, hml, hown, hts⟩ (c_X7_door l hD7 hG (xs (6 * k + 1)) (xs (6 * k + 2)) (if xs (6 * k + 3) = 0 then 0 else 1) (xs (6 * k + 4)) (xs (6 * k + 5)) (nv_b01 _) hch) (cwV 5 hts gL_law_X7_door rfl rfl rfl (by decide +kernel) ⟨Nat.le_of_ble_eq_true rfl, Nat.le_of_ble_eq_true rfl⟩) (nv_pV hK7 hP7 (va_recv hT.1.1 hP7 (ci := 9) (q0 := 0) rfl rfl)) rfl rfl hl.1 rfl (lv_room (Nat.le_of_ble_eq_true rfl)) dL_law_313 ⟨(show 175 + 3 * k + 1 + 0 ≤ 603072 by omega), (show 3554 + 18 * k + 6 + 0 ≤ 7219306 by omega)⟩) hS hA7 (fun H2 locs2 hP2 hK2 hS2 => ?_)
  have hP7 := hP2
  have hcW := cOn_Wv (l7 s AD o oD) _ _ (fun i _ hi h9 => h9.2.1 ⟨i, Nat.zero_le _, hi, rfl⟩) hK2 hcW
  have hO := hO.kept hK2 (fun h9 => h9.2.2.1 rfl)
  have hOB := hOB.kept hK2 (fun h9 => h9.2.2.2 rfl)
  have hS := hS2
  have hF9 := hF.change hk512 (vDoor G (xs (6 * k + 1)) (xs (6 * k + 2)) (if xs (6 * k + 3) = 0 then 0 else 1) (xs (6 * k + 4)) (xs (6 * k + 5))) (fun b9 h1 h2 h3 => vWf_vDoor (nv_b01 _) h1 h2 h3) (vDoor_w _ _ _ _ _ _)
  refine lv_istore (lv' := [(7, .int (((vDoor G (xs (6 * k + 1)) (xs (6 * k + 2)) (if xs (6 * k + 3) = 0 then 0 else 1) (xs (6 * k + 4)) (xs (6 * k + 5))).2.2.2.1))), (6, .int (nI (((vDoor G (xs (6 * k + 1)) (xs (6 * k + 2)) (if xs (6 * k + 3) = 0 then 0 else 1) (xs (6 * k + 4)) (xs (6 * k + 5))).1)))), (0, .ref b9), (1, .ref (AD 0)), (2, .ref h), (3, .ref o), (4, .ref oD), (5, .int (nI (6 * k)))]) hx hb dL_law_316 hl (by decide) rfl (fun ls hl => ?_)
  refine lv_aload_n hx hb dL_law_318 rfl (lv_at hl 4 rfl) ?_
  refine nv_kS (va_runV (As := []) (rest := []) ⟨hx, hb, hml, hown, hts⟩ (c_X7_thrown l) (cwV 0 hts gL_law_X7_thrown rfl rfl rfl (by decide +kernel) ⟨Nat.le_of_ble_eq_true rfl, Nat.le_of_ble_eq_true rfl⟩) (nv_pV hK7 hP7 (va_recv hT.1.1 hP7 (ci := 9) (q0 := 0) rfl rfl)) rfl rfl hl.1 rfl (lv_room (Nat.le_of_ble_eq_true rfl)) dL_law_319 ⟨(show 175 + 3 * k + 1 + 0 + 0 ≤ 603072 by omega), (show 3554 + 18 * k + 6 + 0 + 0 ≤ 7219306 by omega)⟩) ?_
  refine lv_iload hx hb dL_law_322 (lv_at hl 1 rfl) ?_
  refine lv_icmp_eq (tgt := 329) hx hb dL_law_324 (by decide) (fun _ => ?_) (fun h9 => absurd rfl h9)
  refine lv_iload hx hb dL_law_329 (lv_at hl 1 rfl) ?_
  refine lv_if_ne (tgt := 346) hx hb dL_law_331 (by decide) (fun _ => lv_goto (tgt := 2679) hx hb dL_law_346 (by decide) (W.widen (k := 175 + 3 * (k + 1)) (n := 3554 + 18 * (k + 1)) (by omega) (by omega) (K _ _ _ ⟨_, _, _, _, _, _, _, _, _, _, _, _, _, _, _, _, _, _, hP7, hcW, hF9, hO.imp (fun _ _ => trivial), hOB.imp (fun _ _ => trivial)⟩ hS (lv_sub hl [2, 3, 4, 5, 6, 7] rfl)))) (fun h0 => ?_)
  have ht0 := nv_n0 (t := ((vDoor G (xs (6 * k + 1)) (xs (6 * k + 2)) (if xs (6 * k + 3) = 0 then 0 else 1) (xs (6 * k + 4)) (xs (6 * k + 5))).1)) (vDoor_n _ _ _ _ _ _) h0
  refine lv_aload_n hx hb dL_law_334 rfl (lv_at hl 5 rfl) ?_
  refine lv_iconst (v := nI 0) hx hb dL_law_335 (by decide) ?_
  refine nv_laldO hx hb hX.1 0 rfl (hO.imp (fun _ z => z ht0)) dL_law_336 ?_
  refine lv_iload hx hb dL_law_337 (lv_at hl 0 rfl) ?_
  refine lv_i2l hx hb dL_law_339 rfl ?_
  refine W.lcmp hx hb dL_law_340 ?_
  exact lv_if_eq (tgt := 346) hx hb dL_law_341 (by decide) (fun _ => lv_goto (tgt := 2679) hx hb dL_law_346 (by decide) (W.widen (k := 175 + 3 * (k + 1)) (n := 3554 + 18 * (k + 1)) (by omega) (by omega) (K _ _ _ ⟨_, _, _, _, _, _, _, _, _, _, _, _, _, _, _, _, _, _, hP7, hcW, hF9, hO.imp (fun _ _ => trivial), hOB.imp (fun _ _ => trivial)⟩ hS (lv_sub hl [2, 3, 4, 5, 6, 7] rfl)))) (fun h9 => absurd (lg_same _) h9)

set_option maxHeartbeats 1000000 in
set_option maxRecDepth 100000 in
theorem lc_threshold {p : Program} {l : Launch} {e : Env} {s : State} {m : MethodId} {args : Array Value} {below : List Frame} {meth : Method} {c : Code} {H : Heap} {locs : List Loc} {Q : State → Prop} {ls : Array Slot} {D : va_G} {cI cC cD cR cL cB : ClassId} {sa : sA} {AD : Nat → Nat} {h aG aB aH aS aI aL aT o oD b9 L : Nat} {xs : Nat → Int32} {k : Nat} (hC : lC p l s m args c D cI cC cD cR cL cB sa AD h aG aB aH aS aI aL aT o oD b9 L xs) (hk : 6 * k + 6 ≤ L) (hLI : lI D cI cC cD cR cL cB AD h aG aB aH aS aI aL aT o oD k H) (hS : va_S (lAN s) s.heap H locs) (hl : lv_has ls 9 [(0, .ref b9), (1, .ref (AD 0)), (2, .ref h), (3, .ref o), (4, .ref oD), (5, .int (nI (6 * k)))])
    (K : ∀ (H1 : Heap) (locs1 : List Loc) (ls1 : Array Slot), lI D cI cC cD cR cL cB AD h aG aB aH aS aI aL aT o oD (k + 1) H1 → va_S (lAN s) s.heap H1 locs1 → lv_has ls1 9 [(0, .ref b9), (1, .ref (AD 0)), (2, .ref h), (3, .ref o), (4, .ref oD), (5, .int (nI (6 * k)))] → W p l e room_1 s m args below meth c H1 locs1 (175 + 3 * (k + 1)) (3554 + 18 * (k + 1)) Q (F0 m 2679 ls1 [])) : W p l e room_1 s m args below meth c H locs (175 + 3 * k) (3554 + 18 * k) Q (F0 m 349 ls []) := by
  obtain ⟨hx, hb, hml, hown, hts, hl9, hXs, hbl, hL, hT, hX, hI, hAD, ho9, hoD9, hne, hD7⟩ := hC
  obtain ⟨G, B, Hi, Sv, In, Le, To, ch, hs, ty, wy, ln, th, sp, iw, ea, ra, wd, hP7, hcW, hF, hO, hOB⟩ := hLI
  obtain ⟨b, hG, h25, hbt, -, hch, hHg, hhs, hSg, hty, hS7, hln, hLe, hwy⟩ := id hF
  have hk512 : k < 512 := by omega
  have hbb : b + 1 < 2 ^ 20 := by omega
  have hb32 : b + 32 < 2 ^ 20 := by omega
  have h13 : b < 8192 := by omega
  have hHw : ∀ j, j < ch → hAt Hi j 0 ≤ 8 ∧ hAt Hi j 1 ≤ 6 ∧ hAt Hi j 2 ≤ 5 := fun j hj => ⟨(hHg j hj).2.2.1, (hHg j hj).2.2.2.1, (hHg j hj).2.2.2.2.1⟩
  have hSw : hs = 1 → Sv 0 ≤ 8 ∧ Sv 1 ≤ 6 ∧ Sv 2 ≤ 5 := fun q => ⟨(hSg q).2.2.1, (hSg q).2.2.2.1, (hSg q).2.2.2.2.1⟩
  have ho := ho9.2
  have hoD := hoD9.2
  have hK7 : kS D [(cI, .int), (cC, .char)] [] s := ⟨hT.1.1.sub [0, 1] rfl, fun _ h9 => nomatch h9⟩
  have hA7 : ∀ q, l7 s AD o oD q → lAN s q := fun _ h9 => h9.1
  refine lv_aload_n hx hb dL_law_349 rfl (lv_at hl 1 rfl) ?_
  refine lv_aload_n hx hb dL_law_350 rfl (lv_at hl 0 rfl) ?_
  refine lv_iload hx hb dL_law_351 (lv_at hl 5 rfl) ?_
  refine lv_iconst (v := nI 1) hx hb dL_law_353 (by decide) ?_
  refine nv_iadd hx hb dL_law_354 ?_
  refine nv_sld hx hb hXs hbl hS (by omega) hL dL_law_355 ?_
  refine lv_aload_n hx hb dL_law_356 rfl (lv_at hl 3 rfl) ?_
  refine nv_kN (vx_runSX (hh := [(0, 9, 12, 13), (0, 9, 15, 17)]) (As := [.ref (AD 0), .int (xs (6 * k + 1)), .ref o]) (rest := []) ⟨hx, hb, hml, hown, hts⟩ (c_L_threshold l hl9 ho hG hI hch hHw h25 hbb (xs (6 * k + 1))) (vx_cwSW 3 hts gL_law_L_threshold rfl rfl rfl (by decide +kernel) ⟨Nat.le_of_ble_eq_true rfl, Nat.le_of_ble_eq_true rfl⟩) (nl_pS hT hX hS (fun q h9 => h9.elim (fun ⟨i, _, hi, e9⟩ => by rw [e9]; exact hAD i hi) (fun e9 => by rw [e9]; exact ho9.1)) ⟨hcW, hO⟩) rfl rfl hl.1 rfl (lv_room (Nat.le_of_ble_eq_true rfl)) dL_law_357 ⟨(show 175 + 3 * k + 1 ≤ 603072 by omega), (show 3554 + 18 * k + 6 ≤ 7219306 by omega)⟩) hS (fun q h9 => h9.elim (fun ⟨i, _, hi, e9⟩ => by rw [e9]; exact hAD i hi) (fun e9 => by rw [e9]; exact ho9.1)) (fun H1 locs1 hP1 hK1 hS1 => ?_)
  obtain ⟨hcW, hO9⟩ := hP1
  have hP7 := nv_keep7 (hD7 G B Hi Sv In Le To _) hP7 hK1 (fun q h9 h8 => h8.elim h9.2.1 (fun e9 => h9.2.2.1 e9))
  have hOB := hOB.kept hK1 (fun h8 => h8.elim hoD (fun e9 => hne e9.symm))
  have hO := hO9
  have hS := hS1
  refine lv_istore (lv' := [(6, .int (nI (((vSill G (xs (6 * k + 1))).1)))), (0, .ref b9), (1, .ref (AD 0)), (2, .ref h), (3, .ref o), (4, .ref oD), (5, .int (nI (6 * k)))]) hx hb dL_law_360 hl (by decide) rfl (fun ls hl => ?_)
  refine lv_aload_n hx hb dL_law_362 rfl (lv_at hl 3 rfl) ?_
  refine lv_aload_n hx hb dL_law_363 rfl (lv_at hl 1 rfl) ?_
  refine lv_iload hx hb dL_law_364 (lv_at hl 6 rfl) ?_
  refine lv_iconst (v := nI 1) hx hb dL_law_366 (by decide) ?_
  refine nv_iadd hx hb dL_law_367 ?_
  refine nv_sld hx hb hXs hbl hS (by omega) hL dL_law_368 ?_
  refine nv_kM2 (va_runV (As := [.int (xs (6 * k + 1))]) (rest := []) ⟨hx, hb, hml, hown, hts⟩ (c_X7_threshold l hD7 hG (xs (6 * k + 1)) hch) (cwV 1 hts gL_law_X7_threshold rfl rfl rfl (by decide +kernel) ⟨Nat.le_of_ble_eq_true rfl, Nat.le_of_ble_eq_true rfl⟩) (nv_pV hK7 hP7 (va_recv hT.1.1 hP7 (ci := 9) (q0 := 0) rfl rfl)) rfl rfl hl.1 rfl (lv_room (Nat.le_of_ble_eq_true rfl)) dL_law_369 ⟨(show 175 + 3 * k + 1 + 0 ≤ 603072 by omega), (show 3554 + 18 * k + 6 + 0 ≤ 7219306 by omega)⟩) hS hA7 (fun H2 locs2 hP2 hK2 hS2 => ?_)
  have hP7 := hP2
  have hcW := cOn_Wv (l7 s AD o oD) _ _ (fun i _ hi h9 => h9.2.1 ⟨i, Nat.zero_le _, hi, rfl⟩) hK2 hcW
  have hO := hO.kept hK2 (fun h9 => h9.2.2.1 rfl)
  have hOB := hOB.kept hK2 (fun h9 => h9.2.2.2 rfl)
  have hS := hS2
  have hF9 := hF.change hk512 (vSill G (xs (6 * k + 1))) (fun b9 h1 h2 h3 => vWf_vSill h1 h2 h3) (vSill_w _ _)
  refine lv_istore (lv' := [(7, .int (((vSill G (xs (6 * k + 1))).2.2.2.1))), (6, .int (nI (((vSill G (xs (6 * k + 1))).1)))), (0, .ref b9), (1, .ref (AD 0)), (2, .ref h), (3, .ref o), (4, .ref oD), (5, .int (nI (6 * k)))]) hx hb dL_law_372 hl (by decide) rfl (fun ls hl => ?_)
  refine lv_aload_n hx hb dL_law_374 rfl (lv_at hl 4 rfl) ?_
  refine nv_kS (va_runV (As := []) (rest := []) ⟨hx, hb, hml, hown, hts⟩ (c_X7_thrown l) (cwV 0 hts gL_law_X7_thrown rfl rfl rfl (by decide +kernel) ⟨Nat.le_of_ble_eq_true rfl, Nat.le_of_ble_eq_true rfl⟩) (nv_pV hK7 hP7 (va_recv hT.1.1 hP7 (ci := 9) (q0 := 0) rfl rfl)) rfl rfl hl.1 rfl (lv_room (Nat.le_of_ble_eq_true rfl)) dL_law_375 ⟨(show 175 + 3 * k + 1 + 0 + 0 ≤ 603072 by omega), (show 3554 + 18 * k + 6 + 0 + 0 ≤ 7219306 by omega)⟩) ?_
  refine lv_iload hx hb dL_law_378 (lv_at hl 1 rfl) ?_
  refine lv_icmp_eq (tgt := 385) hx hb dL_law_380 (by decide) (fun _ => ?_) (fun h9 => absurd rfl h9)
  refine lv_iload hx hb dL_law_385 (lv_at hl 1 rfl) ?_
  refine lv_if_ne (tgt := 402) hx hb dL_law_387 (by decide) (fun _ => lv_goto (tgt := 2679) hx hb dL_law_402 (by decide) (W.widen (k := 175 + 3 * (k + 1)) (n := 3554 + 18 * (k + 1)) (by omega) (by omega) (K _ _ _ ⟨_, _, _, _, _, _, _, _, _, _, _, _, _, _, _, _, _, _, hP7, hcW, hF9, hO.imp (fun _ _ => trivial), hOB.imp (fun _ _ => trivial)⟩ hS (lv_sub hl [2, 3, 4, 5, 6, 7] rfl)))) (fun h0 => ?_)
  have ht0 := nv_n0 (t := ((vSill G (xs (6 * k + 1))).1)) (vSill_n _ _) h0
  refine lv_aload_n hx hb dL_law_390 rfl (lv_at hl 5 rfl) ?_
  refine lv_iconst (v := nI 0) hx hb dL_law_391 (by decide) ?_
  refine nv_laldO hx hb hX.1 0 rfl (hO.imp (fun _ z => z ht0)) dL_law_392 ?_
  refine lv_iload hx hb dL_law_393 (lv_at hl 0 rfl) ?_
  refine lv_i2l hx hb dL_law_395 rfl ?_
  refine W.lcmp hx hb dL_law_396 ?_
  exact lv_if_eq (tgt := 402) hx hb dL_law_397 (by decide) (fun _ => lv_goto (tgt := 2679) hx hb dL_law_402 (by decide) (W.widen (k := 175 + 3 * (k + 1)) (n := 3554 + 18 * (k + 1)) (by omega) (by omega) (K _ _ _ ⟨_, _, _, _, _, _, _, _, _, _, _, _, _, _, _, _, _, _, hP7, hcW, hF9, hO.imp (fun _ _ => trivial), hOB.imp (fun _ _ => trivial)⟩ hS (lv_sub hl [2, 3, 4, 5, 6, 7] rfl)))) (fun h9 => absurd (lg_same _) h9)

set_option maxHeartbeats 1000000 in
set_option maxRecDepth 100000 in
theorem lc_govern {p : Program} {l : Launch} {e : Env} {s : State} {m : MethodId} {args : Array Value} {below : List Frame} {meth : Method} {c : Code} {H : Heap} {locs : List Loc} {Q : State → Prop} {ls : Array Slot} {D : va_G} {cI cC cD cR cL cB : ClassId} {sa : sA} {AD : Nat → Nat} {h aG aB aH aS aI aL aT o oD b9 L : Nat} {xs : Nat → Int32} {k : Nat} (hC : lC p l s m args c D cI cC cD cR cL cB sa AD h aG aB aH aS aI aL aT o oD b9 L xs) (hk : 6 * k + 6 ≤ L) (hLI : lI D cI cC cD cR cL cB AD h aG aB aH aS aI aL aT o oD k H) (hS : va_S (lAN s) s.heap H locs) (hl : lv_has ls 9 [(0, .ref b9), (1, .ref (AD 0)), (2, .ref h), (3, .ref o), (4, .ref oD), (5, .int (nI (6 * k)))])
    (K : ∀ (H1 : Heap) (locs1 : List Loc) (ls1 : Array Slot), lI D cI cC cD cR cL cB AD h aG aB aH aS aI aL aT o oD (k + 1) H1 → va_S (lAN s) s.heap H1 locs1 → lv_has ls1 9 [(0, .ref b9), (1, .ref (AD 0)), (2, .ref h), (3, .ref o), (4, .ref oD), (5, .int (nI (6 * k)))] → W p l e room_1 s m args below meth c H1 locs1 (175 + 3 * (k + 1)) (3554 + 18 * (k + 1)) Q (F0 m 2679 ls1 [])) : W p l e room_1 s m args below meth c H locs (175 + 3 * k) (3554 + 18 * k) Q (F0 m 405 ls []) := by
  obtain ⟨hx, hb, hml, hown, hts, hl9, hXs, hbl, hL, hT, hX, hI, hAD, ho9, hoD9, hne, hD7⟩ := hC
  obtain ⟨G, B, Hi, Sv, In, Le, To, ch, hs, ty, wy, ln, th, sp, iw, ea, ra, wd, hP7, hcW, hF, hO, hOB⟩ := hLI
  obtain ⟨b, hG, h25, hbt, -, hch, hHg, hhs, hSg, hty, hS7, hln, hLe, hwy⟩ := id hF
  have hk512 : k < 512 := by omega
  have hbb : b + 1 < 2 ^ 20 := by omega
  have hb32 : b + 32 < 2 ^ 20 := by omega
  have h13 : b < 8192 := by omega
  have hHw : ∀ j, j < ch → hAt Hi j 0 ≤ 8 ∧ hAt Hi j 1 ≤ 6 ∧ hAt Hi j 2 ≤ 5 := fun j hj => ⟨(hHg j hj).2.2.1, (hHg j hj).2.2.2.1, (hHg j hj).2.2.2.2.1⟩
  have hSw : hs = 1 → Sv 0 ≤ 8 ∧ Sv 1 ≤ 6 ∧ Sv 2 ≤ 5 := fun q => ⟨(hSg q).2.2.1, (hSg q).2.2.2.1, (hSg q).2.2.2.2.1⟩
  have ho := ho9.2
  have hoD := hoD9.2
  have hK7 : kS D [(cI, .int), (cC, .char)] [] s := ⟨hT.1.1.sub [0, 1] rfl, fun _ h9 => nomatch h9⟩
  have hA7 : ∀ q, l7 s AD o oD q → lAN s q := fun _ h9 => h9.1
  refine lv_aload_n hx hb dL_law_405 rfl (lv_at hl 1 rfl) ?_
  refine lv_aload_n hx hb dL_law_406 rfl (lv_at hl 0 rfl) ?_
  refine lv_iload hx hb dL_law_407 (lv_at hl 5 rfl) ?_
  refine lv_iconst (v := nI 1) hx hb dL_law_409 (by decide) ?_
  refine nv_iadd hx hb dL_law_410 ?_
  refine nv_sld hx hb hXs hbl hS (by omega) hL dL_law_411 ?_
  refine lv_aload_n hx hb dL_law_412 rfl (lv_at hl 0 rfl) ?_
  refine lv_iload hx hb dL_law_413 (lv_at hl 5 rfl) ?_
  refine lv_iconst (v := nI 2) hx hb dL_law_415 (by decide) ?_
  refine nv_iadd hx hb dL_law_416 ?_
  refine nv_sld hx hb hXs hbl hS (by omega) hL dL_law_417 ?_
  refine lv_aload_n hx hb dL_law_418 rfl (lv_at hl 3 rfl) ?_
  refine nv_kN (vx_runSX (hh := [(0, 10, 13, 15), (0, 10, 17, 13), (0, 10, 21, 17)]) (As := [.ref (AD 0), .int (xs (6 * k + 1)), .int (xs (6 * k + 2)), .ref o]) (rest := []) ⟨hx, hb, hml, hown, hts⟩ (c_L_govern l hl9 ho hG hI hch hHw h25 hbb (xs (6 * k + 1)) (xs (6 * k + 2))) (vx_cwSW 4 hts gL_law_L_govern rfl rfl rfl (by decide +kernel) ⟨Nat.le_of_ble_eq_true rfl, Nat.le_of_ble_eq_true rfl⟩) (nl_pS hT hX hS (fun q h9 => h9.elim (fun ⟨i, _, hi, e9⟩ => by rw [e9]; exact hAD i hi) (fun e9 => by rw [e9]; exact ho9.1)) ⟨hcW, hO⟩) rfl rfl hl.1 rfl (lv_room (Nat.le_of_ble_eq_true rfl)) dL_law_419 ⟨(show 175 + 3 * k + 1 ≤ 603072 by omega), (show 3554 + 18 * k + 6 ≤ 7219306 by omega)⟩) hS (fun q h9 => h9.elim (fun ⟨i, _, hi, e9⟩ => by rw [e9]; exact hAD i hi) (fun e9 => by rw [e9]; exact ho9.1)) (fun H1 locs1 hP1 hK1 hS1 => ?_)
  obtain ⟨hcW, hO9⟩ := hP1
  have hP7 := nv_keep7 (hD7 G B Hi Sv In Le To _) hP7 hK1 (fun q h9 h8 => h8.elim h9.2.1 (fun e9 => h9.2.2.1 e9))
  have hOB := hOB.kept hK1 (fun h8 => h8.elim hoD (fun e9 => hne e9.symm))
  have hO := hO9
  have hS := hS1
  refine lv_istore (lv' := [(6, .int (nI (((vGovern G (xs (6 * k + 1)) (xs (6 * k + 2))).1)))), (0, .ref b9), (1, .ref (AD 0)), (2, .ref h), (3, .ref o), (4, .ref oD), (5, .int (nI (6 * k)))]) hx hb dL_law_422 hl (by decide) rfl (fun ls hl => ?_)
  refine lv_aload_n hx hb dL_law_424 rfl (lv_at hl 3 rfl) ?_
  refine lv_aload_n hx hb dL_law_425 rfl (lv_at hl 1 rfl) ?_
  refine lv_iload hx hb dL_law_426 (lv_at hl 6 rfl) ?_
  refine lv_iconst (v := nI 1) hx hb dL_law_428 (by decide) ?_
  refine nv_iadd hx hb dL_law_429 ?_
  refine nv_sld hx hb hXs hbl hS (by omega) hL dL_law_430 ?_
  refine lv_aload_n hx hb dL_law_431 rfl (lv_at hl 1 rfl) ?_
  refine lv_iload hx hb dL_law_432 (lv_at hl 6 rfl) ?_
  refine lv_iconst (v := nI 2) hx hb dL_law_434 (by decide) ?_
  refine nv_iadd hx hb dL_law_435 ?_
  refine nv_sld hx hb hXs hbl hS (by omega) hL dL_law_436 ?_
  refine nv_kM2 (va_runV (As := [.int (xs (6 * k + 1)), .int (xs (6 * k + 2))]) (rest := []) ⟨hx, hb, hml, hown, hts⟩ (c_X7_govern l hD7 hG (xs (6 * k + 1)) (xs (6 * k + 2)) hch) (cwV 2 hts gL_law_X7_govern rfl rfl rfl (by decide +kernel) ⟨Nat.le_of_ble_eq_true rfl, Nat.le_of_ble_eq_true rfl⟩) (nv_pV hK7 hP7 (va_recv hT.1.1 hP7 (ci := 9) (q0 := 0) rfl rfl)) rfl rfl hl.1 rfl (lv_room (Nat.le_of_ble_eq_true rfl)) dL_law_437 ⟨(show 175 + 3 * k + 1 + 0 ≤ 603072 by omega), (show 3554 + 18 * k + 6 + 0 ≤ 7219306 by omega)⟩) hS hA7 (fun H2 locs2 hP2 hK2 hS2 => ?_)
  have hP7 := hP2
  have hcW := cOn_Wv (l7 s AD o oD) _ _ (fun i _ hi h9 => h9.2.1 ⟨i, Nat.zero_le _, hi, rfl⟩) hK2 hcW
  have hO := hO.kept hK2 (fun h9 => h9.2.2.1 rfl)
  have hOB := hOB.kept hK2 (fun h9 => h9.2.2.2 rfl)
  have hS := hS2
  have hF9 := hF.change hk512 (vGovern G (xs (6 * k + 1)) (xs (6 * k + 2))) (fun b9 h1 h2 h3 => vWf_vGovern h1 h2 h3) (vGovern_w _ _ _)
  refine lv_istore (lv' := [(7, .int (((vGovern G (xs (6 * k + 1)) (xs (6 * k + 2))).2.2.2.1))), (6, .int (nI (((vGovern G (xs (6 * k + 1)) (xs (6 * k + 2))).1)))), (0, .ref b9), (1, .ref (AD 0)), (2, .ref h), (3, .ref o), (4, .ref oD), (5, .int (nI (6 * k)))]) hx hb dL_law_440 hl (by decide) rfl (fun ls hl => ?_)
  refine lv_aload_n hx hb dL_law_442 rfl (lv_at hl 4 rfl) ?_
  refine nv_kS (va_runV (As := []) (rest := []) ⟨hx, hb, hml, hown, hts⟩ (c_X7_thrown l) (cwV 0 hts gL_law_X7_thrown rfl rfl rfl (by decide +kernel) ⟨Nat.le_of_ble_eq_true rfl, Nat.le_of_ble_eq_true rfl⟩) (nv_pV hK7 hP7 (va_recv hT.1.1 hP7 (ci := 9) (q0 := 0) rfl rfl)) rfl rfl hl.1 rfl (lv_room (Nat.le_of_ble_eq_true rfl)) dL_law_443 ⟨(show 175 + 3 * k + 1 + 0 + 0 ≤ 603072 by omega), (show 3554 + 18 * k + 6 + 0 + 0 ≤ 7219306 by omega)⟩) ?_
  refine lv_iload hx hb dL_law_446 (lv_at hl 1 rfl) ?_
  refine lv_icmp_eq (tgt := 453) hx hb dL_law_448 (by decide) (fun _ => ?_) (fun h9 => absurd rfl h9)
  refine lv_iload hx hb dL_law_453 (lv_at hl 1 rfl) ?_
  refine lv_if_ne (tgt := 470) hx hb dL_law_455 (by decide) (fun _ => lv_goto (tgt := 2679) hx hb dL_law_470 (by decide) (W.widen (k := 175 + 3 * (k + 1)) (n := 3554 + 18 * (k + 1)) (by omega) (by omega) (K _ _ _ ⟨_, _, _, _, _, _, _, _, _, _, _, _, _, _, _, _, _, _, hP7, hcW, hF9, hO.imp (fun _ _ => trivial), hOB.imp (fun _ _ => trivial)⟩ hS (lv_sub hl [2, 3, 4, 5, 6, 7] rfl)))) (fun h0 => ?_)
  have ht0 := nv_n0 (t := ((vGovern G (xs (6 * k + 1)) (xs (6 * k + 2))).1)) (vGovern_n _ _ _) h0
  refine lv_aload_n hx hb dL_law_458 rfl (lv_at hl 5 rfl) ?_
  refine lv_iconst (v := nI 0) hx hb dL_law_459 (by decide) ?_
  refine nv_laldO hx hb hX.1 0 rfl (hO.imp (fun _ z => z ht0)) dL_law_460 ?_
  refine lv_iload hx hb dL_law_461 (lv_at hl 0 rfl) ?_
  refine lv_i2l hx hb dL_law_463 rfl ?_
  refine W.lcmp hx hb dL_law_464 ?_
  exact lv_if_eq (tgt := 470) hx hb dL_law_465 (by decide) (fun _ => lv_goto (tgt := 2679) hx hb dL_law_470 (by decide) (W.widen (k := 175 + 3 * (k + 1)) (n := 3554 + 18 * (k + 1)) (by omega) (by omega) (K _ _ _ ⟨_, _, _, _, _, _, _, _, _, _, _, _, _, _, _, _, _, _, hP7, hcW, hF9, hO.imp (fun _ _ => trivial), hOB.imp (fun _ _ => trivial)⟩ hS (lv_sub hl [2, 3, 4, 5, 6, 7] rfl)))) (fun h9 => absurd (lg_same _) h9)

set_option maxHeartbeats 1000000 in
set_option maxRecDepth 100000 in
theorem lc_set {p : Program} {l : Launch} {e : Env} {s : State} {m : MethodId} {args : Array Value} {below : List Frame} {meth : Method} {c : Code} {H : Heap} {locs : List Loc} {Q : State → Prop} {ls : Array Slot} {D : va_G} {cI cC cD cR cL cB : ClassId} {sa : sA} {AD : Nat → Nat} {h aG aB aH aS aI aL aT o oD b9 L : Nat} {xs : Nat → Int32} {k : Nat} (hC : lC p l s m args c D cI cC cD cR cL cB sa AD h aG aB aH aS aI aL aT o oD b9 L xs) (hk : 6 * k + 6 ≤ L) (hLI : lI D cI cC cD cR cL cB AD h aG aB aH aS aI aL aT o oD k H) (hS : va_S (lAN s) s.heap H locs) (hl : lv_has ls 9 [(0, .ref b9), (1, .ref (AD 0)), (2, .ref h), (3, .ref o), (4, .ref oD), (5, .int (nI (6 * k)))])
    (K : ∀ (H1 : Heap) (locs1 : List Loc) (ls1 : Array Slot), lI D cI cC cD cR cL cB AD h aG aB aH aS aI aL aT o oD (k + 1) H1 → va_S (lAN s) s.heap H1 locs1 → lv_has ls1 9 [(0, .ref b9), (1, .ref (AD 0)), (2, .ref h), (3, .ref o), (4, .ref oD), (5, .int (nI (6 * k)))] → W p l e room_1 s m args below meth c H1 locs1 (175 + 3 * (k + 1)) (3554 + 18 * (k + 1)) Q (F0 m 2679 ls1 [])) : W p l e room_1 s m args below meth c H locs (175 + 3 * k) (3554 + 18 * k) Q (F0 m 473 ls []) := by
  obtain ⟨hx, hb, hml, hown, hts, hl9, hXs, hbl, hL, hT, hX, hI, hAD, ho9, hoD9, hne, hD7⟩ := hC
  obtain ⟨G, B, Hi, Sv, In, Le, To, ch, hs, ty, wy, ln, th, sp, iw, ea, ra, wd, hP7, hcW, hF, hO, hOB⟩ := hLI
  obtain ⟨b, hG, h25, hbt, -, hch, hHg, hhs, hSg, hty, hS7, hln, hLe, hwy⟩ := id hF
  have hk512 : k < 512 := by omega
  have hbb : b + 1 < 2 ^ 20 := by omega
  have hb32 : b + 32 < 2 ^ 20 := by omega
  have h13 : b < 8192 := by omega
  have hHw : ∀ j, j < ch → hAt Hi j 0 ≤ 8 ∧ hAt Hi j 1 ≤ 6 ∧ hAt Hi j 2 ≤ 5 := fun j hj => ⟨(hHg j hj).2.2.1, (hHg j hj).2.2.2.1, (hHg j hj).2.2.2.2.1⟩
  have hSw : hs = 1 → Sv 0 ≤ 8 ∧ Sv 1 ≤ 6 ∧ Sv 2 ≤ 5 := fun q => ⟨(hSg q).2.2.1, (hSg q).2.2.2.1, (hSg q).2.2.2.2.1⟩
  have ho := ho9.2
  have hoD := hoD9.2
  have hK7 : kS D [(cI, .int), (cC, .char)] [] s := ⟨hT.1.1.sub [0, 1] rfl, fun _ h9 => nomatch h9⟩
  have hA7 : ∀ q, l7 s AD o oD q → lAN s q := fun _ h9 => h9.1
  refine lv_aload_n hx hb dL_law_473 rfl (lv_at hl 1 rfl) ?_
  refine lv_aload_n hx hb dL_law_474 rfl (lv_at hl 0 rfl) ?_
  refine lv_iload hx hb dL_law_475 (lv_at hl 5 rfl) ?_
  refine lv_iconst (v := nI 1) hx hb dL_law_477 (by decide) ?_
  refine nv_iadd hx hb dL_law_478 ?_
  refine nv_sld hx hb hXs hbl hS (by omega) hL dL_law_479 ?_
  refine lv_aload_n hx hb dL_law_480 rfl (lv_at hl 0 rfl) ?_
  refine lv_iload hx hb dL_law_481 (lv_at hl 5 rfl) ?_
  refine lv_iconst (v := nI 2) hx hb dL_law_483 (by decide) ?_
  refine nv_iadd hx hb dL_law_484 ?_
  refine nv_sld hx hb hXs hbl hS (by omega) hL dL_law_485 ?_
  refine lv_aload_n hx hb dL_law_486 rfl (lv_at hl 3 rfl) ?_
  refine nv_kN (vx_runSX (hh := [(0, 10, 13, 15), (0, 10, 17, 17)]) (As := [.ref (AD 0), .int (xs (6 * k + 1)), .int (xs (6 * k + 2)), .ref o]) (rest := []) ⟨hx, hb, hml, hown, hts⟩ (c_L_set l hl9 ho hG hI hch hHw h25 hbb (xs (6 * k + 1)) (xs (6 * k + 2))) (vx_cwSW 4 hts gL_law_L_set rfl rfl rfl (by decide +kernel) ⟨Nat.le_of_ble_eq_true rfl, Nat.le_of_ble_eq_true rfl⟩) (nl_pS hT hX hS (fun q h9 => h9.elim (fun ⟨i, _, hi, e9⟩ => by rw [e9]; exact hAD i hi) (fun e9 => by rw [e9]; exact ho9.1)) ⟨hcW, hO⟩) rfl rfl hl.1 rfl (lv_room (Nat.le_of_ble_eq_true rfl)) dL_law_487 ⟨(show 175 + 3 * k + 1 ≤ 603072 by omega), (show 3554 + 18 * k + 6 ≤ 7219306 by omega)⟩) hS (fun q h9 => h9.elim (fun ⟨i, _, hi, e9⟩ => by rw [e9]; exact hAD i hi) (fun e9 => by rw [e9]; exact ho9.1)) (fun H1 locs1 hP1 hK1 hS1 => ?_)
  obtain ⟨hcW, hO9⟩ := hP1
  have hP7 := nv_keep7 (hD7 G B Hi Sv In Le To _) hP7 hK1 (fun q h9 h8 => h8.elim h9.2.1 (fun e9 => h9.2.2.1 e9))
  have hOB := hOB.kept hK1 (fun h8 => h8.elim hoD (fun e9 => hne e9.symm))
  have hO := hO9
  have hS := hS1
  refine lv_istore (lv' := [(6, .int (nI (((vSet G (xs (6 * k + 1)) (xs (6 * k + 2))).1)))), (0, .ref b9), (1, .ref (AD 0)), (2, .ref h), (3, .ref o), (4, .ref oD), (5, .int (nI (6 * k)))]) hx hb dL_law_490 hl (by decide) rfl (fun ls hl => ?_)
  refine lv_aload_n hx hb dL_law_492 rfl (lv_at hl 3 rfl) ?_
  refine lv_aload_n hx hb dL_law_493 rfl (lv_at hl 1 rfl) ?_
  refine lv_iload hx hb dL_law_494 (lv_at hl 6 rfl) ?_
  refine lv_iconst (v := nI 1) hx hb dL_law_496 (by decide) ?_
  refine nv_iadd hx hb dL_law_497 ?_
  refine nv_sld hx hb hXs hbl hS (by omega) hL dL_law_498 ?_
  refine lv_aload_n hx hb dL_law_499 rfl (lv_at hl 1 rfl) ?_
  refine lv_iload hx hb dL_law_500 (lv_at hl 6 rfl) ?_
  refine lv_iconst (v := nI 2) hx hb dL_law_502 (by decide) ?_
  refine nv_iadd hx hb dL_law_503 ?_
  refine nv_sld hx hb hXs hbl hS (by omega) hL dL_law_504 ?_
  refine nv_kM2 (va_runV (As := [.int (xs (6 * k + 1)), .int (xs (6 * k + 2))]) (rest := []) ⟨hx, hb, hml, hown, hts⟩ (c_X7_set l hD7 hG (xs (6 * k + 1)) (xs (6 * k + 2)) hch) (cwV 2 hts gL_law_X7_set rfl rfl rfl (by decide +kernel) ⟨Nat.le_of_ble_eq_true rfl, Nat.le_of_ble_eq_true rfl⟩) (nv_pV hK7 hP7 (va_recv hT.1.1 hP7 (ci := 9) (q0 := 0) rfl rfl)) rfl rfl hl.1 rfl (lv_room (Nat.le_of_ble_eq_true rfl)) dL_law_505 ⟨(show 175 + 3 * k + 1 + 0 ≤ 603072 by omega), (show 3554 + 18 * k + 6 + 0 ≤ 7219306 by omega)⟩) hS hA7 (fun H2 locs2 hP2 hK2 hS2 => ?_)
  have hP7 := hP2
  have hcW := cOn_Wv (l7 s AD o oD) _ _ (fun i _ hi h9 => h9.2.1 ⟨i, Nat.zero_le _, hi, rfl⟩) hK2 hcW
  have hO := hO.kept hK2 (fun h9 => h9.2.2.1 rfl)
  have hOB := hOB.kept hK2 (fun h9 => h9.2.2.2 rfl)
  have hS := hS2
  have hF9 := hF.change hk512 (vSet G (xs (6 * k + 1)) (xs (6 * k + 2))) (fun b9 h1 h2 h3 => vWf_vSet h1 h2 h3) (vSet_w _ _ _)
  refine lv_istore (lv' := [(7, .int (((vSet G (xs (6 * k + 1)) (xs (6 * k + 2))).2.2.2.1))), (6, .int (nI (((vSet G (xs (6 * k + 1)) (xs (6 * k + 2))).1)))), (0, .ref b9), (1, .ref (AD 0)), (2, .ref h), (3, .ref o), (4, .ref oD), (5, .int (nI (6 * k)))]) hx hb dL_law_508 hl (by decide) rfl (fun ls hl => ?_)
  refine lv_aload_n hx hb dL_law_510 rfl (lv_at hl 4 rfl) ?_
  refine nv_kS (va_runV (As := []) (rest := []) ⟨hx, hb, hml, hown, hts⟩ (c_X7_thrown l) (cwV 0 hts gL_law_X7_thrown rfl rfl rfl (by decide +kernel) ⟨Nat.le_of_ble_eq_true rfl, Nat.le_of_ble_eq_true rfl⟩) (nv_pV hK7 hP7 (va_recv hT.1.1 hP7 (ci := 9) (q0 := 0) rfl rfl)) rfl rfl hl.1 rfl (lv_room (Nat.le_of_ble_eq_true rfl)) dL_law_511 ⟨(show 175 + 3 * k + 1 + 0 + 0 ≤ 603072 by omega), (show 3554 + 18 * k + 6 + 0 + 0 ≤ 7219306 by omega)⟩) ?_
  refine lv_iload hx hb dL_law_514 (lv_at hl 1 rfl) ?_
  refine lv_icmp_eq (tgt := 521) hx hb dL_law_516 (by decide) (fun _ => ?_) (fun h9 => absurd rfl h9)
  refine lv_iload hx hb dL_law_521 (lv_at hl 1 rfl) ?_
  refine lv_if_ne (tgt := 538) hx hb dL_law_523 (by decide) (fun _ => lv_goto (tgt := 2679) hx hb dL_law_538 (by decide) (W.widen (k := 175 + 3 * (k + 1)) (n := 3554 + 18 * (k + 1)) (by omega) (by omega) (K _ _ _ ⟨_, _, _, _, _, _, _, _, _, _, _, _, _, _, _, _, _, _, hP7, hcW, hF9, hO.imp (fun _ _ => trivial), hOB.imp (fun _ _ => trivial)⟩ hS (lv_sub hl [2, 3, 4, 5, 6, 7] rfl)))) (fun h0 => ?_)
  have ht0 := nv_n0 (t := ((vSet G (xs (6 * k + 1)) (xs (6 * k + 2))).1)) (vSet_n _ _ _) h0
  refine lv_aload_n hx hb dL_law_526 rfl (lv_at hl 5 rfl) ?_
  refine lv_iconst (v := nI 0) hx hb dL_law_527 (by decide) ?_
  refine nv_laldO hx hb hX.1 0 rfl (hO.imp (fun _ z => z ht0)) dL_law_528 ?_
  refine lv_iload hx hb dL_law_529 (lv_at hl 0 rfl) ?_
  refine lv_i2l hx hb dL_law_531 rfl ?_
  refine W.lcmp hx hb dL_law_532 ?_
  exact lv_if_eq (tgt := 538) hx hb dL_law_533 (by decide) (fun _ => lv_goto (tgt := 2679) hx hb dL_law_538 (by decide) (W.widen (k := 175 + 3 * (k + 1)) (n := 3554 + 18 * (k + 1)) (by omega) (by omega) (K _ _ _ ⟨_, _, _, _, _, _, _, _, _, _, _, _, _, _, _, _, _, _, hP7, hcW, hF9, hO.imp (fun _ _ => trivial), hOB.imp (fun _ _ => trivial)⟩ hS (lv_sub hl [2, 3, 4, 5, 6, 7] rfl)))) (fun h9 => absurd (lg_same _) h9)

set_option maxHeartbeats 1000000 in
set_option maxRecDepth 100000 in
theorem lc_tellEnding {p : Program} {l : Launch} {e : Env} {s : State} {m : MethodId} {args : Array Value} {below : List Frame} {meth : Method} {c : Code} {H : Heap} {locs : List Loc} {Q : State → Prop} {ls : Array Slot} {D : va_G} {cI cC cD cR cL cB : ClassId} {sa : sA} {AD : Nat → Nat} {h aG aB aH aS aI aL aT o oD b9 L : Nat} {xs : Nat → Int32} {k : Nat} (hC : lC p l s m args c D cI cC cD cR cL cB sa AD h aG aB aH aS aI aL aT o oD b9 L xs) (hk : 6 * k + 6 ≤ L) (hLI : lI D cI cC cD cR cL cB AD h aG aB aH aS aI aL aT o oD k H) (hS : va_S (lAN s) s.heap H locs) (hl : lv_has ls 9 [(0, .ref b9), (1, .ref (AD 0)), (2, .ref h), (3, .ref o), (4, .ref oD), (5, .int (nI (6 * k)))])
    (K : ∀ (H1 : Heap) (locs1 : List Loc) (ls1 : Array Slot), lI D cI cC cD cR cL cB AD h aG aB aH aS aI aL aT o oD (k + 1) H1 → va_S (lAN s) s.heap H1 locs1 → lv_has ls1 9 [(0, .ref b9), (1, .ref (AD 0)), (2, .ref h), (3, .ref o), (4, .ref oD), (5, .int (nI (6 * k)))] → W p l e room_1 s m args below meth c H1 locs1 (175 + 3 * (k + 1)) (3554 + 18 * (k + 1)) Q (F0 m 2679 ls1 [])) : W p l e room_1 s m args below meth c H locs (175 + 3 * k) (3554 + 18 * k) Q (F0 m 541 ls []) := by
  obtain ⟨hx, hb, hml, hown, hts, hl9, hXs, hbl, hL, hT, hX, hI, hAD, ho9, hoD9, hne, hD7⟩ := hC
  obtain ⟨G, B, Hi, Sv, In, Le, To, ch, hs, ty, wy, ln, th, sp, iw, ea, ra, wd, hP7, hcW, hF, hO, hOB⟩ := hLI
  obtain ⟨b, hG, h25, hbt, -, hch, hHg, hhs, hSg, hty, hS7, hln, hLe, hwy⟩ := id hF
  have hk512 : k < 512 := by omega
  have hbb : b + 1 < 2 ^ 20 := by omega
  have hb32 : b + 32 < 2 ^ 20 := by omega
  have h13 : b < 8192 := by omega
  have hHw : ∀ j, j < ch → hAt Hi j 0 ≤ 8 ∧ hAt Hi j 1 ≤ 6 ∧ hAt Hi j 2 ≤ 5 := fun j hj => ⟨(hHg j hj).2.2.1, (hHg j hj).2.2.2.1, (hHg j hj).2.2.2.2.1⟩
  have hSw : hs = 1 → Sv 0 ≤ 8 ∧ Sv 1 ≤ 6 ∧ Sv 2 ≤ 5 := fun q => ⟨(hSg q).2.2.1, (hSg q).2.2.2.1, (hSg q).2.2.2.2.1⟩
  have ho := ho9.2
  have hoD := hoD9.2
  have hK7 : kS D [(cI, .int), (cC, .char)] [] s := ⟨hT.1.1.sub [0, 1] rfl, fun _ h9 => nomatch h9⟩
  have hA7 : ∀ q, l7 s AD o oD q → lAN s q := fun _ h9 => h9.1
  refine lv_aload_n hx hb dL_law_541 rfl (lv_at hl 1 rfl) ?_
  refine lv_aload_n hx hb dL_law_542 rfl (lv_at hl 0 rfl) ?_
  refine lv_iload hx hb dL_law_543 (lv_at hl 5 rfl) ?_
  refine lv_iconst (v := nI 1) hx hb dL_law_545 (by decide) ?_
  refine nv_iadd hx hb dL_law_546 ?_
  refine nv_sld hx hb hXs hbl hS (by omega) hL dL_law_547 ?_
  refine lv_aload_n hx hb dL_law_548 rfl (lv_at hl 0 rfl) ?_
  refine lv_iload hx hb dL_law_549 (lv_at hl 5 rfl) ?_
  refine lv_iconst (v := nI 2) hx hb dL_law_551 (by decide) ?_
  refine nv_iadd hx hb dL_law_552 ?_
  refine nv_sld hx hb hXs hbl hS (by omega) hL dL_law_553 ?_
  refine lv_aload_n hx hb dL_law_554 rfl (lv_at hl 0 rfl) ?_
  refine lv_iload hx hb dL_law_555 (lv_at hl 5 rfl) ?_
  refine lv_iconst (v := nI 3) hx hb dL_law_557 (by decide) ?_
  refine nv_iadd hx hb dL_law_558 ?_
  refine nv_sld hx hb hXs hbl hS (by omega) hL dL_law_559 ?_
  refine nv_bool hx hb dL_law_560 dL_law_563 dL_law_564 dL_law_567 ?_
  refine lv_aload_n hx hb dL_law_568 rfl (lv_at hl 0 rfl) ?_
  refine lv_iload hx hb dL_law_569 (lv_at hl 5 rfl) ?_
  refine lv_iconst (v := nI 4) hx hb dL_law_571 (by decide) ?_
  refine nv_iadd hx hb dL_law_572 ?_
  refine nv_sld hx hb hXs hbl hS (by omega) hL dL_law_573 ?_
  refine lv_aload_n hx hb dL_law_574 rfl (lv_at hl 3 rfl) ?_
  refine nv_kN (vx_runSX (hh := [(0, 14, 17, 13), (0, 14, 21, 17)]) (As := [.ref (AD 0), .int (xs (6 * k + 1)), .int (xs (6 * k + 2)), .int (nI (if xs (6 * k + 3) = 0 then 0 else 1)), .int (xs (6 * k + 4)), .ref o]) (rest := []) ⟨hx, hb, hml, hown, hts⟩ (c_L_tellEnding l hl9 ho hG hI hch hHw h25 hbb (xs (6 * k + 1)) (xs (6 * k + 2)) (if xs (6 * k + 3) = 0 then 0 else 1) (xs (6 * k + 4)) (nv_b01 _)) (vx_cwSW 6 hts gL_law_L_tellEnding rfl rfl rfl (by decide +kernel) ⟨Nat.le_of_ble_eq_true rfl, Nat.le_of_ble_eq_true rfl⟩) (nl_pS hT hX hS (fun q h9 => h9.elim (fun ⟨i, _, hi, e9⟩ => by rw [e9]; exact hAD i hi) (fun e9 => by rw [e9]; exact ho9.1)) ⟨hcW, hO⟩) rfl rfl hl.1 rfl (lv_room (Nat.le_of_ble_eq_true rfl)) dL_law_575 ⟨(show 175 + 3 * k + 1 ≤ 603072 by omega), (show 3554 + 18 * k + 6 ≤ 7219306 by omega)⟩) hS (fun q h9 => h9.elim (fun ⟨i, _, hi, e9⟩ => by rw [e9]; exact hAD i hi) (fun e9 => by rw [e9]; exact ho9.1)) (fun H1 locs1 hP1 hK1 hS1 => ?_)
  obtain ⟨hcW, hO9⟩ := hP1
  have hP7 := nv_keep7 (hD7 G B Hi Sv In Le To _) hP7 hK1 (fun q h9 h8 => h8.elim h9.2.1 (fun e9 => h9.2.2.1 e9))
  have hOB := hOB.kept hK1 (fun h8 => h8.elim hoD (fun e9 => hne e9.symm))
  have hO := hO9
  have hS := hS1
  refine lv_istore (lv' := [(6, .int (nI (((vTell G (xs (6 * k + 1)) (xs (6 * k + 2)) (if xs (6 * k + 3) = 0 then 0 else 1) (xs (6 * k + 4))).1)))), (0, .ref b9), (1, .ref (AD 0)), (2, .ref h), (3, .ref o), (4, .ref oD), (5, .int (nI (6 * k)))]) hx hb dL_law_578 hl (by decide) rfl (fun ls hl => ?_)
  refine lv_aload_n hx hb dL_law_580 rfl (lv_at hl 3 rfl) ?_
  refine lv_aload_n hx hb dL_law_581 rfl (lv_at hl 1 rfl) ?_
  refine lv_iload hx hb dL_law_582 (lv_at hl 6 rfl) ?_
  refine lv_iconst (v := nI 1) hx hb dL_law_584 (by decide) ?_
  refine nv_iadd hx hb dL_law_585 ?_
  refine nv_sld hx hb hXs hbl hS (by omega) hL dL_law_586 ?_
  refine lv_aload_n hx hb dL_law_587 rfl (lv_at hl 1 rfl) ?_
  refine lv_iload hx hb dL_law_588 (lv_at hl 6 rfl) ?_
  refine lv_iconst (v := nI 2) hx hb dL_law_590 (by decide) ?_
  refine nv_iadd hx hb dL_law_591 ?_
  refine nv_sld hx hb hXs hbl hS (by omega) hL dL_law_592 ?_
  refine lv_aload_n hx hb dL_law_593 rfl (lv_at hl 1 rfl) ?_
  refine lv_iload hx hb dL_law_594 (lv_at hl 6 rfl) ?_
  refine lv_iconst (v := nI 3) hx hb dL_law_596 (by decide) ?_
  refine nv_iadd hx hb dL_law_597 ?_
  refine nv_sld hx hb hXs hbl hS (by omega) hL dL_law_598 ?_
  refine nv_bool hx hb dL_law_599 dL_law_602 dL_law_603 dL_law_606 ?_
  refine lv_aload_n hx hb dL_law_607 rfl (lv_at hl 1 rfl) ?_
  refine lv_iload hx hb dL_law_608 (lv_at hl 6 rfl) ?_
  refine lv_iconst (v := nI 4) hx hb dL_law_610 (by decide) ?_
  refine nv_iadd hx hb dL_law_611 ?_
  refine nv_sld hx hb hXs hbl hS (by omega) hL dL_law_612 ?_
  refine nv_kM2 (va_runV (As := [.int (xs (6 * k + 1)), .int (xs (6 * k + 2)), .int (nI (if xs (6 * k + 3) = 0 then 0 else 1)), .int (xs (6 * k + 4))]) (rest := []) ⟨hx, hb, hml, hown, hts⟩ (c_X7_tellEnding l hD7 hG (xs (6 * k + 1)) (xs (6 * k + 2)) (if xs (6 * k + 3) = 0 then 0 else 1) (xs (6 * k + 4)) (nv_b01 _) hch) (cwV 4 hts gL_law_X7_tellEnding rfl rfl rfl (by decide +kernel) ⟨Nat.le_of_ble_eq_true rfl, Nat.le_of_ble_eq_true rfl⟩) (nv_pV hK7 hP7 (va_recv hT.1.1 hP7 (ci := 9) (q0 := 0) rfl rfl)) rfl rfl hl.1 rfl (lv_room (Nat.le_of_ble_eq_true rfl)) dL_law_613 ⟨(show 175 + 3 * k + 1 + 0 ≤ 603072 by omega), (show 3554 + 18 * k + 6 + 0 ≤ 7219306 by omega)⟩) hS hA7 (fun H2 locs2 hP2 hK2 hS2 => ?_)
  have hP7 := hP2
  have hcW := cOn_Wv (l7 s AD o oD) _ _ (fun i _ hi h9 => h9.2.1 ⟨i, Nat.zero_le _, hi, rfl⟩) hK2 hcW
  have hO := hO.kept hK2 (fun h9 => h9.2.2.1 rfl)
  have hOB := hOB.kept hK2 (fun h9 => h9.2.2.2 rfl)
  have hS := hS2
  have hF9 := hF.change hk512 (vTell G (xs (6 * k + 1)) (xs (6 * k + 2)) (if xs (6 * k + 3) = 0 then 0 else 1) (xs (6 * k + 4))) (fun b9 h1 h2 h3 => vWf_vTell (nv_b01 _) h1 h2 h3) (vTell_w _ _ _ _ _)
  refine lv_istore (lv' := [(7, .int (((vTell G (xs (6 * k + 1)) (xs (6 * k + 2)) (if xs (6 * k + 3) = 0 then 0 else 1) (xs (6 * k + 4))).2.2.2.1))), (6, .int (nI (((vTell G (xs (6 * k + 1)) (xs (6 * k + 2)) (if xs (6 * k + 3) = 0 then 0 else 1) (xs (6 * k + 4))).1)))), (0, .ref b9), (1, .ref (AD 0)), (2, .ref h), (3, .ref o), (4, .ref oD), (5, .int (nI (6 * k)))]) hx hb dL_law_616 hl (by decide) rfl (fun ls hl => ?_)
  refine lv_aload_n hx hb dL_law_618 rfl (lv_at hl 4 rfl) ?_
  refine nv_kS (va_runV (As := []) (rest := []) ⟨hx, hb, hml, hown, hts⟩ (c_X7_thrown l) (cwV 0 hts gL_law_X7_thrown rfl rfl rfl (by decide +kernel) ⟨Nat.le_of_ble_eq_true rfl, Nat.le_of_ble_eq_true rfl⟩) (nv_pV hK7 hP7 (va_recv hT.1.1 hP7 (ci := 9) (q0 := 0) rfl rfl)) rfl rfl hl.1 rfl (lv_room (Nat.le_of_ble_eq_true rfl)) dL_law_619 ⟨(show 175 + 3 * k + 1 + 0 + 0 ≤ 603072 by omega), (show 3554 + 18 * k + 6 + 0 + 0 ≤ 7219306 by omega)⟩) ?_
  refine lv_iload hx hb dL_law_622 (lv_at hl 1 rfl) ?_
  refine lv_icmp_eq (tgt := 629) hx hb dL_law_624 (by decide) (fun _ => ?_) (fun h9 => absurd rfl h9)
  refine lv_iload hx hb dL_law_629 (lv_at hl 1 rfl) ?_
  refine lv_if_ne (tgt := 646) hx hb dL_law_631 (by decide) (fun _ => lv_goto (tgt := 2679) hx hb dL_law_646 (by decide) (W.widen (k := 175 + 3 * (k + 1)) (n := 3554 + 18 * (k + 1)) (by omega) (by omega) (K _ _ _ ⟨_, _, _, _, _, _, _, _, _, _, _, _, _, _, _, _, _, _, hP7, hcW, hF9, hO.imp (fun _ _ => trivial), hOB.imp (fun _ _ => trivial)⟩ hS (lv_sub hl [2, 3, 4, 5, 6, 7] rfl)))) (fun h0 => ?_)
  have ht0 := nv_n0 (t := ((vTell G (xs (6 * k + 1)) (xs (6 * k + 2)) (if xs (6 * k + 3) = 0 then 0 else 1) (xs (6 * k + 4))).1)) (vTell_n _ _ _ _ _) h0
  refine lv_aload_n hx hb dL_law_634 rfl (lv_at hl 5 rfl) ?_
  refine lv_iconst (v := nI 0) hx hb dL_law_635 (by decide) ?_
  refine nv_laldO hx hb hX.1 0 rfl (hO.imp (fun _ z => z ht0)) dL_law_636 ?_
  refine lv_iload hx hb dL_law_637 (lv_at hl 0 rfl) ?_
  refine lv_i2l hx hb dL_law_639 rfl ?_
  refine W.lcmp hx hb dL_law_640 ?_
  exact lv_if_eq (tgt := 646) hx hb dL_law_641 (by decide) (fun _ => lv_goto (tgt := 2679) hx hb dL_law_646 (by decide) (W.widen (k := 175 + 3 * (k + 1)) (n := 3554 + 18 * (k + 1)) (by omega) (by omega) (K _ _ _ ⟨_, _, _, _, _, _, _, _, _, _, _, _, _, _, _, _, _, _, hP7, hcW, hF9, hO.imp (fun _ _ => trivial), hOB.imp (fun _ _ => trivial)⟩ hS (lv_sub hl [2, 3, 4, 5, 6, 7] rfl)))) (fun h9 => absurd (lg_same _) h9)

set_option maxHeartbeats 1000000 in
set_option maxRecDepth 100000 in
theorem lc_key {p : Program} {l : Launch} {e : Env} {s : State} {m : MethodId} {args : Array Value} {below : List Frame} {meth : Method} {c : Code} {H : Heap} {locs : List Loc} {Q : State → Prop} {ls : Array Slot} {D : va_G} {cI cC cD cR cL cB : ClassId} {sa : sA} {AD : Nat → Nat} {h aG aB aH aS aI aL aT o oD b9 L : Nat} {xs : Nat → Int32} {k : Nat} (hC : lC p l s m args c D cI cC cD cR cL cB sa AD h aG aB aH aS aI aL aT o oD b9 L xs) (hk : 6 * k + 6 ≤ L) (hLI : lI D cI cC cD cR cL cB AD h aG aB aH aS aI aL aT o oD k H) (hS : va_S (lAN s) s.heap H locs) (hl : lv_has ls 9 [(0, .ref b9), (1, .ref (AD 0)), (2, .ref h), (3, .ref o), (4, .ref oD), (5, .int (nI (6 * k)))])
    (K : ∀ (H1 : Heap) (locs1 : List Loc) (ls1 : Array Slot), lI D cI cC cD cR cL cB AD h aG aB aH aS aI aL aT o oD (k + 1) H1 → va_S (lAN s) s.heap H1 locs1 → lv_has ls1 9 [(0, .ref b9), (1, .ref (AD 0)), (2, .ref h), (3, .ref o), (4, .ref oD), (5, .int (nI (6 * k)))] → W p l e room_1 s m args below meth c H1 locs1 (175 + 3 * (k + 1)) (3554 + 18 * (k + 1)) Q (F0 m 2679 ls1 [])) : W p l e room_1 s m args below meth c H locs (175 + 3 * k) (3554 + 18 * k) Q (F0 m 649 ls []) := by
  obtain ⟨hx, hb, hml, hown, hts, hl9, hXs, hbl, hL, hT, hX, hI, hAD, ho9, hoD9, hne, hD7⟩ := hC
  obtain ⟨G, B, Hi, Sv, In, Le, To, ch, hs, ty, wy, ln, th, sp, iw, ea, ra, wd, hP7, hcW, hF, hO, hOB⟩ := hLI
  obtain ⟨b, hG, h25, hbt, -, hch, hHg, hhs, hSg, hty, hS7, hln, hLe, hwy⟩ := id hF
  have hk512 : k < 512 := by omega
  have hbb : b + 1 < 2 ^ 20 := by omega
  have hb32 : b + 32 < 2 ^ 20 := by omega
  have h13 : b < 8192 := by omega
  have hHw : ∀ j, j < ch → hAt Hi j 0 ≤ 8 ∧ hAt Hi j 1 ≤ 6 ∧ hAt Hi j 2 ≤ 5 := fun j hj => ⟨(hHg j hj).2.2.1, (hHg j hj).2.2.2.1, (hHg j hj).2.2.2.2.1⟩
  have hSw : hs = 1 → Sv 0 ≤ 8 ∧ Sv 1 ≤ 6 ∧ Sv 2 ≤ 5 := fun q => ⟨(hSg q).2.2.1, (hSg q).2.2.2.1, (hSg q).2.2.2.2.1⟩
  have ho := ho9.2
  have hoD := hoD9.2
  have hK7 : kS D [(cI, .int), (cC, .char)] [] s := ⟨hT.1.1.sub [0, 1] rfl, fun _ h9 => nomatch h9⟩
  have hA7 : ∀ q, l7 s AD o oD q → lAN s q := fun _ h9 => h9.1
  refine lv_aload_n hx hb dL_law_649 rfl (lv_at hl 1 rfl) ?_
  refine lv_aload_n hx hb dL_law_650 rfl (lv_at hl 0 rfl) ?_
  refine lv_iload hx hb dL_law_651 (lv_at hl 5 rfl) ?_
  refine lv_iconst (v := nI 1) hx hb dL_law_653 (by decide) ?_
  refine nv_iadd hx hb dL_law_654 ?_
  refine nv_sld hx hb hXs hbl hS (by omega) hL dL_law_655 ?_
  refine lv_aload_n hx hb dL_law_656 rfl (lv_at hl 0 rfl) ?_
  refine lv_iload hx hb dL_law_657 (lv_at hl 5 rfl) ?_
  refine lv_iconst (v := nI 2) hx hb dL_law_659 (by decide) ?_
  refine nv_iadd hx hb dL_law_660 ?_
  refine nv_sld hx hb hXs hbl hS (by omega) hL dL_law_661 ?_
  refine lv_aload_n hx hb dL_law_662 rfl (lv_at hl 3 rfl) ?_
  refine nv_kN (vx_runSX (hh := [(0, 10, 13, 13), (0, 10, 17, 17)]) (As := [.ref (AD 0), .int (xs (6 * k + 1)), .int (xs (6 * k + 2)), .ref o]) (rest := []) ⟨hx, hb, hml, hown, hts⟩ (c_L_key l hl9 ho hG hI hch hHw h25 hbb (xs (6 * k + 1)) (xs (6 * k + 2))) (vx_cwSW 4 hts gL_law_L_key rfl rfl rfl (by decide +kernel) ⟨Nat.le_of_ble_eq_true rfl, Nat.le_of_ble_eq_true rfl⟩) (nl_pS hT hX hS (fun q h9 => h9.elim (fun ⟨i, _, hi, e9⟩ => by rw [e9]; exact hAD i hi) (fun e9 => by rw [e9]; exact ho9.1)) ⟨hcW, hO⟩) rfl rfl hl.1 rfl (lv_room (Nat.le_of_ble_eq_true rfl)) dL_law_663 ⟨(show 175 + 3 * k + 1 ≤ 603072 by omega), (show 3554 + 18 * k + 6 ≤ 7219306 by omega)⟩) hS (fun q h9 => h9.elim (fun ⟨i, _, hi, e9⟩ => by rw [e9]; exact hAD i hi) (fun e9 => by rw [e9]; exact ho9.1)) (fun H1 locs1 hP1 hK1 hS1 => ?_)
  obtain ⟨hcW, hO9⟩ := hP1
  have hP7 := nv_keep7 (hD7 G B Hi Sv In Le To _) hP7 hK1 (fun q h9 h8 => h8.elim h9.2.1 (fun e9 => h9.2.2.1 e9))
  have hOB := hOB.kept hK1 (fun h8 => h8.elim hoD (fun e9 => hne e9.symm))
  have hO := hO9
  have hS := hS1
  refine lv_istore (lv' := [(6, .int (nI (((vKey G (xs (6 * k + 1)) (xs (6 * k + 2))).1)))), (0, .ref b9), (1, .ref (AD 0)), (2, .ref h), (3, .ref o), (4, .ref oD), (5, .int (nI (6 * k)))]) hx hb dL_law_666 hl (by decide) rfl (fun ls hl => ?_)
  refine lv_aload_n hx hb dL_law_668 rfl (lv_at hl 3 rfl) ?_
  refine lv_aload_n hx hb dL_law_669 rfl (lv_at hl 1 rfl) ?_
  refine lv_iload hx hb dL_law_670 (lv_at hl 6 rfl) ?_
  refine lv_iconst (v := nI 1) hx hb dL_law_672 (by decide) ?_
  refine nv_iadd hx hb dL_law_673 ?_
  refine nv_sld hx hb hXs hbl hS (by omega) hL dL_law_674 ?_
  refine lv_aload_n hx hb dL_law_675 rfl (lv_at hl 1 rfl) ?_
  refine lv_iload hx hb dL_law_676 (lv_at hl 6 rfl) ?_
  refine lv_iconst (v := nI 2) hx hb dL_law_678 (by decide) ?_
  refine nv_iadd hx hb dL_law_679 ?_
  refine nv_sld hx hb hXs hbl hS (by omega) hL dL_law_680 ?_
  refine nv_kM2 (va_runV (As := [.int (xs (6 * k + 1)), .int (xs (6 * k + 2))]) (rest := []) ⟨hx, hb, hml, hown, hts⟩ (c_X7_key l hD7 hG (xs (6 * k + 1)) (xs (6 * k + 2)) hch) (cwV 2 hts gL_law_X7_key rfl rfl rfl (by decide +kernel) ⟨Nat.le_of_ble_eq_true rfl, Nat.le_of_ble_eq_true rfl⟩) (nv_pV hK7 hP7 (va_recv hT.1.1 hP7 (ci := 9) (q0 := 0) rfl rfl)) rfl rfl hl.1 rfl (lv_room (Nat.le_of_ble_eq_true rfl)) dL_law_681 ⟨(show 175 + 3 * k + 1 + 0 ≤ 603072 by omega), (show 3554 + 18 * k + 6 + 0 ≤ 7219306 by omega)⟩) hS hA7 (fun H2 locs2 hP2 hK2 hS2 => ?_)
  have hP7 := hP2
  have hcW := cOn_Wv (l7 s AD o oD) _ _ (fun i _ hi h9 => h9.2.1 ⟨i, Nat.zero_le _, hi, rfl⟩) hK2 hcW
  have hO := hO.kept hK2 (fun h9 => h9.2.2.1 rfl)
  have hOB := hOB.kept hK2 (fun h9 => h9.2.2.2 rfl)
  have hS := hS2
  have hF9 := hF.change hk512 (vKey G (xs (6 * k + 1)) (xs (6 * k + 2))) (fun b9 h1 h2 h3 => vWf_vKey h1 h2 h3) (vKey_w _ _ _)
  refine lv_istore (lv' := [(7, .int (((vKey G (xs (6 * k + 1)) (xs (6 * k + 2))).2.2.2.1))), (6, .int (nI (((vKey G (xs (6 * k + 1)) (xs (6 * k + 2))).1)))), (0, .ref b9), (1, .ref (AD 0)), (2, .ref h), (3, .ref o), (4, .ref oD), (5, .int (nI (6 * k)))]) hx hb dL_law_684 hl (by decide) rfl (fun ls hl => ?_)
  refine lv_aload_n hx hb dL_law_686 rfl (lv_at hl 4 rfl) ?_
  refine nv_kS (va_runV (As := []) (rest := []) ⟨hx, hb, hml, hown, hts⟩ (c_X7_thrown l) (cwV 0 hts gL_law_X7_thrown rfl rfl rfl (by decide +kernel) ⟨Nat.le_of_ble_eq_true rfl, Nat.le_of_ble_eq_true rfl⟩) (nv_pV hK7 hP7 (va_recv hT.1.1 hP7 (ci := 9) (q0 := 0) rfl rfl)) rfl rfl hl.1 rfl (lv_room (Nat.le_of_ble_eq_true rfl)) dL_law_687 ⟨(show 175 + 3 * k + 1 + 0 + 0 ≤ 603072 by omega), (show 3554 + 18 * k + 6 + 0 + 0 ≤ 7219306 by omega)⟩) ?_
  refine lv_iload hx hb dL_law_690 (lv_at hl 1 rfl) ?_
  refine lv_icmp_eq (tgt := 697) hx hb dL_law_692 (by decide) (fun _ => ?_) (fun h9 => absurd rfl h9)
  refine lv_iload hx hb dL_law_697 (lv_at hl 1 rfl) ?_
  refine lv_if_ne (tgt := 714) hx hb dL_law_699 (by decide) (fun _ => lv_goto (tgt := 2679) hx hb dL_law_714 (by decide) (W.widen (k := 175 + 3 * (k + 1)) (n := 3554 + 18 * (k + 1)) (by omega) (by omega) (K _ _ _ ⟨_, _, _, _, _, _, _, _, _, _, _, _, _, _, _, _, _, _, hP7, hcW, hF9, hO.imp (fun _ _ => trivial), hOB.imp (fun _ _ => trivial)⟩ hS (lv_sub hl [2, 3, 4, 5, 6, 7] rfl)))) (fun h0 => ?_)
  have ht0 := nv_n0 (t := ((vKey G (xs (6 * k + 1)) (xs (6 * k + 2))).1)) (vKey_n _ _ _) h0
  refine lv_aload_n hx hb dL_law_702 rfl (lv_at hl 5 rfl) ?_
  refine lv_iconst (v := nI 0) hx hb dL_law_703 (by decide) ?_
  refine nv_laldO hx hb hX.1 0 rfl (hO.imp (fun _ z => z ht0)) dL_law_704 ?_
  refine lv_iload hx hb dL_law_705 (lv_at hl 0 rfl) ?_
  refine lv_i2l hx hb dL_law_707 rfl ?_
  refine W.lcmp hx hb dL_law_708 ?_
  exact lv_if_eq (tgt := 714) hx hb dL_law_709 (by decide) (fun _ => lv_goto (tgt := 2679) hx hb dL_law_714 (by decide) (W.widen (k := 175 + 3 * (k + 1)) (n := 3554 + 18 * (k + 1)) (by omega) (by omega) (K _ _ _ ⟨_, _, _, _, _, _, _, _, _, _, _, _, _, _, _, _, _, _, hP7, hcW, hF9, hO.imp (fun _ _ => trivial), hOB.imp (fun _ _ => trivial)⟩ hS (lv_sub hl [2, 3, 4, 5, 6, 7] rfl)))) (fun h9 => absurd (lg_same _) h9)

set_option maxHeartbeats 1000000 in
set_option maxRecDepth 100000 in
theorem lc_doorOf {p : Program} {l : Launch} {e : Env} {s : State} {m : MethodId} {args : Array Value} {below : List Frame} {meth : Method} {c : Code} {H : Heap} {locs : List Loc} {Q : State → Prop} {ls : Array Slot} {D : va_G} {cI cC cD cR cL cB : ClassId} {sa : sA} {AD : Nat → Nat} {h aG aB aH aS aI aL aT o oD b9 L : Nat} {xs : Nat → Int32} {k : Nat} (hC : lC p l s m args c D cI cC cD cR cL cB sa AD h aG aB aH aS aI aL aT o oD b9 L xs) (hk : 6 * k + 6 ≤ L) (hLI : lI D cI cC cD cR cL cB AD h aG aB aH aS aI aL aT o oD k H) (hS : va_S (lAN s) s.heap H locs) (hl : lv_has ls 9 [(0, .ref b9), (1, .ref (AD 0)), (2, .ref h), (3, .ref o), (4, .ref oD), (5, .int (nI (6 * k)))])
    (K : ∀ (H1 : Heap) (locs1 : List Loc) (ls1 : Array Slot), lI D cI cC cD cR cL cB AD h aG aB aH aS aI aL aT o oD (k + 1) H1 → va_S (lAN s) s.heap H1 locs1 → lv_has ls1 9 [(0, .ref b9), (1, .ref (AD 0)), (2, .ref h), (3, .ref o), (4, .ref oD), (5, .int (nI (6 * k)))] → W p l e room_1 s m args below meth c H1 locs1 (175 + 3 * (k + 1)) (3554 + 18 * (k + 1)) Q (F0 m 2679 ls1 [])) : W p l e room_1 s m args below meth c H locs (175 + 3 * k) (3554 + 18 * k) Q (F0 m 717 ls []) := by
  obtain ⟨hx, hb, hml, hown, hts, hl9, hXs, hbl, hL, hT, hX, hI, hAD, ho9, hoD9, hne, hD7⟩ := hC
  obtain ⟨G, B, Hi, Sv, In, Le, To, ch, hs, ty, wy, ln, th, sp, iw, ea, ra, wd, hP7, hcW, hF, hO, hOB⟩ := hLI
  obtain ⟨b, hG, h25, hbt, -, hch, hHg, hhs, hSg, hty, hS7, hln, hLe, hwy⟩ := id hF
  have hk512 : k < 512 := by omega
  have hbb : b + 1 < 2 ^ 20 := by omega
  have hb32 : b + 32 < 2 ^ 20 := by omega
  have h13 : b < 8192 := by omega
  have hHw : ∀ j, j < ch → hAt Hi j 0 ≤ 8 ∧ hAt Hi j 1 ≤ 6 ∧ hAt Hi j 2 ≤ 5 := fun j hj => ⟨(hHg j hj).2.2.1, (hHg j hj).2.2.2.1, (hHg j hj).2.2.2.2.1⟩
  have hSw : hs = 1 → Sv 0 ≤ 8 ∧ Sv 1 ≤ 6 ∧ Sv 2 ≤ 5 := fun q => ⟨(hSg q).2.2.1, (hSg q).2.2.2.1, (hSg q).2.2.2.2.1⟩
  have ho := ho9.2
  have hoD := hoD9.2
  have hK7 : kS D [(cI, .int), (cC, .char)] [] s := ⟨hT.1.1.sub [0, 1] rfl, fun _ h9 => nomatch h9⟩
  have hA7 : ∀ q, l7 s AD o oD q → lAN s q := fun _ h9 => h9.1
  refine lv_aload_n hx hb dL_law_717 rfl (lv_at hl 1 rfl) ?_
  refine lv_aload_n hx hb dL_law_718 rfl (lv_at hl 0 rfl) ?_
  refine lv_iload hx hb dL_law_719 (lv_at hl 5 rfl) ?_
  refine lv_iconst (v := nI 1) hx hb dL_law_721 (by decide) ?_
  refine nv_iadd hx hb dL_law_722 ?_
  refine nv_sld hx hb hXs hbl hS (by omega) hL dL_law_723 ?_
  refine lv_aload_n hx hb dL_law_724 rfl (lv_at hl 0 rfl) ?_
  refine lv_iload hx hb dL_law_725 (lv_at hl 5 rfl) ?_
  refine lv_iconst (v := nI 2) hx hb dL_law_727 (by decide) ?_
  refine nv_iadd hx hb dL_law_728 ?_
  refine nv_sld hx hb hXs hbl hS (by omega) hL dL_law_729 ?_
  refine lv_aload_n hx hb dL_law_730 rfl (lv_at hl 3 rfl) ?_
  refine nv_kN (vx_runSX (hh := [(0, 10, 13, 15), (0, 10, 17, 13)]) (As := [.ref (AD 0), .int (xs (6 * k + 1)), .int (xs (6 * k + 2)), .ref o]) (rest := []) ⟨hx, hb, hml, hown, hts⟩ (c_L_doorOf l hl9 ho hG hI (xs (6 * k + 1)) (xs (6 * k + 2))) (vx_cwSW 4 hts gL_law_L_doorOf rfl rfl rfl (by decide +kernel) ⟨Nat.le_of_ble_eq_true rfl, Nat.le_of_ble_eq_true rfl⟩) (nl_pS hT hX hS (fun q h9 => h9.elim (fun ⟨i, _, hi, e9⟩ => by rw [e9]; exact hAD i hi) (fun e9 => by rw [e9]; exact ho9.1)) ⟨hcW, hO⟩) rfl rfl hl.1 rfl (lv_room (Nat.le_of_ble_eq_true rfl)) dL_law_731 ⟨(show 175 + 3 * k + 2 ≤ 603072 by omega), (show 3554 + 18 * k + 12 ≤ 7219306 by omega)⟩) hS (fun q h9 => h9.elim (fun ⟨i, _, hi, e9⟩ => by rw [e9]; exact hAD i hi) (fun e9 => by rw [e9]; exact ho9.1)) (fun H1 locs1 hP1 hK1 hS1 => ?_)
  obtain ⟨hcW, hO9⟩ := hP1
  have hP7 := nv_keep7 (hD7 G B Hi Sv In Le To _) hP7 hK1 (fun q h9 h8 => h8.elim h9.2.1 (fun e9 => h9.2.2.1 e9))
  have hOB := hOB.kept hK1 (fun h8 => h8.elim hoD (fun e9 => hne e9.symm))
  have hO := hO9
  have hS := hS1
  refine lv_istore (lv' := [(6, .int (nI ((if iR (xs (6 * k + 1)) (G 0) then (if iR (xs (6 * k + 2)) 11 then 0 else 2) else 1)))), (0, .ref b9), (1, .ref (AD 0)), (2, .ref h), (3, .ref o), (4, .ref oD), (5, .int (nI (6 * k)))]) hx hb dL_law_734 hl (by decide) rfl (fun ls hl => ?_)
  refine lv_aload_n hx hb dL_law_736 rfl (lv_at hl 3 rfl) ?_
  refine lv_aload_n hx hb dL_law_737 rfl (lv_at hl 1 rfl) ?_
  refine lv_iload hx hb dL_law_738 (lv_at hl 6 rfl) ?_
  refine lv_iconst (v := nI 1) hx hb dL_law_740 (by decide) ?_
  refine nv_iadd hx hb dL_law_741 ?_
  refine nv_sld hx hb hXs hbl hS (by omega) hL dL_law_742 ?_
  refine lv_aload_n hx hb dL_law_743 rfl (lv_at hl 1 rfl) ?_
  refine lv_iload hx hb dL_law_744 (lv_at hl 6 rfl) ?_
  refine lv_iconst (v := nI 2) hx hb dL_law_746 (by decide) ?_
  refine nv_iadd hx hb dL_law_747 ?_
  refine nv_sld hx hb hXs hbl hS (by omega) hL dL_law_748 ?_
  refine nv_kM2 (va_runV (As := [.int (xs (6 * k + 1)), .int (xs (6 * k + 2))]) (rest := []) ⟨hx, hb, hml, hown, hts⟩ (c_X7_doorOf l hD7 hG (xs (6 * k + 1)) (xs (6 * k + 2))) (cwV 2 hts gL_law_X7_doorOf rfl rfl rfl (by decide +kernel) ⟨Nat.le_of_ble_eq_true rfl, Nat.le_of_ble_eq_true rfl⟩) (nv_pV hK7 hP7 (va_recv hT.1.1 hP7 (ci := 9) (q0 := 0) rfl rfl)) rfl rfl hl.1 rfl (lv_room (Nat.le_of_ble_eq_true rfl)) dL_law_749 ⟨(show 175 + 3 * k + 2 + 0 ≤ 603072 by omega), (show 3554 + 18 * k + 12 + 0 ≤ 7219306 by omega)⟩) hS hA7 (fun H2 locs2 hP2 hK2 hS2 => ?_)
  have hP7 := hP2
  have hcW := cOn_W (l7 s AD o oD) _ _ (fun i _ hi h9 => h9.2.1 ⟨i, Nat.zero_le _, hi, rfl⟩) hK2 hcW
  have hO := hO.kept hK2 (fun h9 => h9.2.2.1 rfl)
  have hOB := hOB.kept hK2 (fun h9 => h9.2.2.2 rfl)
  have hS := hS2
  have hF9 := hF.next hk512
  refine lv_istore (lv' := [(7, .int (((if iR (xs (6 * k + 1)) (G 0) then (if iR (xs (6 * k + 2)) 11 then qDoor G (tN (xs (6 * k + 1))) (tN (xs (6 * k + 2))) else 0) else 0)))), (6, .int (nI ((if iR (xs (6 * k + 1)) (G 0) then (if iR (xs (6 * k + 2)) 11 then 0 else 2) else 1)))), (0, .ref b9), (1, .ref (AD 0)), (2, .ref h), (3, .ref o), (4, .ref oD), (5, .int (nI (6 * k)))]) hx hb dL_law_752 hl (by decide) rfl (fun ls hl => ?_)
  refine lv_aload_n hx hb dL_law_754 rfl (lv_at hl 4 rfl) ?_
  refine nv_kS (va_runV (As := []) (rest := []) ⟨hx, hb, hml, hown, hts⟩ (c_X7_thrown l) (cwV 0 hts gL_law_X7_thrown rfl rfl rfl (by decide +kernel) ⟨Nat.le_of_ble_eq_true rfl, Nat.le_of_ble_eq_true rfl⟩) (nv_pV hK7 hP7 (va_recv hT.1.1 hP7 (ci := 9) (q0 := 0) rfl rfl)) rfl rfl hl.1 rfl (lv_room (Nat.le_of_ble_eq_true rfl)) dL_law_755 ⟨(show 175 + 3 * k + 2 + 0 + 0 ≤ 603072 by omega), (show 3554 + 18 * k + 12 + 0 + 0 ≤ 7219306 by omega)⟩) ?_
  refine lv_iload hx hb dL_law_758 (lv_at hl 1 rfl) ?_
  refine lv_icmp_eq (tgt := 765) hx hb dL_law_760 (by decide) (fun _ => ?_) (fun h9 => absurd rfl h9)
  refine lv_iload hx hb dL_law_765 (lv_at hl 1 rfl) ?_
  refine lv_if_ne (tgt := 782) hx hb dL_law_767 (by decide) (fun _ => lv_goto (tgt := 2679) hx hb dL_law_782 (by decide) (W.widen (k := 175 + 3 * (k + 1)) (n := 3554 + 18 * (k + 1)) (by omega) (by omega) (K _ _ _ ⟨_, _, _, _, _, _, _, _, _, _, _, _, _, _, _, _, _, _, hP7, hcW, hF9, hO.imp (fun _ _ => trivial), hOB.imp (fun _ _ => trivial)⟩ hS (lv_sub hl [2, 3, 4, 5, 6, 7] rfl)))) (fun h0 => ?_)
  have ht0 := nv_n0 (t := (if iR (xs (6 * k + 1)) (G 0) then (if iR (xs (6 * k + 2)) 11 then 0 else 2) else 1)) (by (repeat' split) <;> decide) h0
  refine lv_aload_n hx hb dL_law_770 rfl (lv_at hl 5 rfl) ?_
  refine lv_iconst (v := nI 0) hx hb dL_law_771 (by decide) ?_
  refine nv_laldO hx hb hX.1 0 rfl (hO.imp (fun _ z => z ht0)) dL_law_772 ?_
  refine lv_iload hx hb dL_law_773 (lv_at hl 0 rfl) ?_
  refine lv_i2l hx hb dL_law_775 rfl ?_
  refine W.lcmp hx hb dL_law_776 ?_
  exact lv_if_eq (tgt := 782) hx hb dL_law_777 (by decide) (fun _ => lv_goto (tgt := 2679) hx hb dL_law_782 (by decide) (W.widen (k := 175 + 3 * (k + 1)) (n := 3554 + 18 * (k + 1)) (by omega) (by omega) (K _ _ _ ⟨_, _, _, _, _, _, _, _, _, _, _, _, _, _, _, _, _, _, hP7, hcW, hF9, hO.imp (fun _ _ => trivial), hOB.imp (fun _ _ => trivial)⟩ hS (lv_sub hl [2, 3, 4, 5, 6, 7] rfl)))) (fun h9 => absurd (lg_same _) h9)
