theorem nv_atlt {D : va_G} {AD : Nat → Nat} {H : Heap} {ws : va_W} {b n i : Nat} (hP : va_P D vwCl ws H) (hw : cAt AD b n ws) (hlen : ws.length = n) (hi : i < n) : AD (b + i) < H.size := by
  have hk : ws[i]? = some (ws[i]'(by omega)) := List.getElem?_eq_getElem (by omega)
  obtain ⟨_, e⟩ := hw i _ hk
  rw [← e]
  exact vx_lt hP hk
/-- the class's cells lie in the heap -/
theorem cW_lt {D : va_G} {cI cC cD cR : ClassId} {AD : Nat → Nat} {G Sv Hi In Le : Nat → Nat} {hs ch ty wy ln : Nat} {ea ra wd : Int32} {H : Heap} (h : cW D cI cC cD cR AD G Sv Hi In Le hs ch ty wy ln ea ra wd H) : ∀ i, i < 165 → AD i < H.size := by
  obtain ⟨hOb, ⟨u1, _, _, h1⟩, ⟨V, SA, o, pl, vc, _, hIn⟩, ⟨u2, _, _, h2⟩, ⟨f, _, hPa, hRi⟩, ⟨P, Q9, hWk⟩, ⟨F, _, _, hTx⟩⟩ := h
  intro i hi
  rcases (show i = 0 ∨ (1 ≤ i ∧ i < 15) ∨ (15 ≤ i ∧ i < 29) ∨ (29 ≤ i ∧ i < 31) ∨ (31 ≤ i ∧ i < 157) ∨ (157 ≤ i ∧ i < 160) ∨ (160 ≤ i ∧ i < 162) ∨ 162 ≤ i by omega) with q | q | q | q | q | q | q | q
  · have := nv_atlt (b := 0) (n := 1) (i := 0) hOb cAt_1 rfl (by omega)
    rwa [show 0 + 0 = i by omega] at this
  · have := nv_atlt (n := 14) (i := i - 1) h1 (cAt_hw 1) rfl (by omega)
    rwa [show 1 + (i - 1) = i by omega] at this
  · have := nv_atlt (n := 14) (i := i - 15) h2 (cAt_hw 15) rfl (by omega)
    rwa [show 15 + (i - 15) = i by omega] at this
  · have := nv_atlt (b := 29) (n := 2) (i := i - 29) hPa cAt_2 rfl (by omega)
    rwa [show 29 + (i - 29) = i by omega] at this
  · obtain ⟨u, _, h3, _⟩ := hRi ((i - 31) / 14) (by omega)
    have := nv_atlt (n := 14) (i := (i - 31) % 14) h3 (cAt_hw (31 + 14 * ((i - 31) / 14))) rfl (by omega)
    rwa [show 31 + 14 * ((i - 31) / 14) + (i - 31) % 14 = i by omega] at this
  · have := nv_atlt (b := 157) (n := 3) (i := i - 157) hWk cAt_3 rfl (by omega)
    rwa [show 157 + (i - 157) = i by omega] at this
  · have := nv_atlt (b := 160) (n := 2) (i := i - 160) hTx cAt_2 rfl (by omega)
    rwa [show 160 + (i - 160) = i by omega] at this
  · have := nv_atlt (b := 162) (n := 3) (i := i - 162) hIn cAt_3 rfl (by omega)
    rwa [show 162 + (i - 162) = i by omega] at this
theorem va_D.moved {A B : Nat → Prop} {ws ws2 : va_W} (h : va_D A ws) (he : ws2.map Prod.fst = ws.map Prod.fst) (hAB : ∀ (k : Nat) (q : Nat × va_E), ws[k]? = some q → B q.1) : va_D B ws2 := by
  have key : ∀ (k : Nat) (q : Nat × va_E), ws2[k]? = some q → ∃ e, ws[k]? = some (q.1, e) := by
    intro k q hk
    have h1 : (ws2.map Prod.fst)[k]? = some q.1 := by rw [List.getElem?_map, hk]; rfl
    rw [he, List.getElem?_map] at h1
    cases h2 : ws[k]? with
    | none => rw [h2] at h1; cases h1
    | some r =>
      rw [h2] at h1
      have h3 : r.1 = q.1 := Option.some.inj h1
      exact ⟨r.2, by rw [← h3]⟩
  refine ⟨fun i j p q hi hj e => ?_, fun k q hk => ?_⟩
  · obtain ⟨e1, h1⟩ := key i p hi
    obtain ⟨e2, h2⟩ := key j q hj
    exact h.1 i j _ _ h1 h2 e
  · obtain ⟨e1, h1⟩ := key k q hk
    exact hAB k (q.1, e1) h1
set_option maxHeartbeats 4000000 in
set_option maxRecDepth 100000 in
theorem whole_start {p : Program} {e : Env} {s : State} {m : MethodId} {below : List Frame} {meth : Method} {c : Code} (l : Launch) (hflags : l.flags = flags0) {b L : Nat} {xs : Nat → Int32} (hL : L ≤ 3072) (C0 : lw_At p s m meth c b L xs) : W p l e room_1 s m #[Value.ref b] below meth c s.heap [] 0 0 (lw_Z below #[Value.ref b] s) (entryFrame m ([Value.ref b] : List Value).toArray 9) := by
  obtain ⟨hx, hb, hr, hml, hown, hts, hX, hbl, hlocks, hgv⟩ := id C0
  have hown : s.vm.findClass RL = some m.cls := hown
  have hl9 : l.stackTraces = false := by
    show (!l.flags.contains noTraceFlag) = false
    rw [hflags]
    decide +kernel
  have hfl : ∀ w ∈ lwF, w.before #[Value.ref b] s = true := flat_of_before _ hgv
  obtain ⟨D, cI, cC, cD, cR, cL, cB, sa, hT, hLX⟩ := law_facts hts hfl
  have hl := lv_entry ([.ref b]) (n := 9) (Nat.le_of_ble_eq_true rfl)
  rw [lg_entry_eq]
  generalize (lg_sl ([.ref b]) ++ List.replicate (9 - (lg_sl ([.ref b])).length) Slot.unset).toArray = ls at hl ⊢
  have hl : lv_has ls 9 [(0, .ref b)] := hl
  have hS : va_S (lAN s) s.heap s.heap [] := va_S.rf
  have hA : ∀ q : Nat, s.heap.size ≤ q → lAN s q := fun _ h => h
  have hP0 : ∀ H : Heap, va_P D vwCl [] H := fun H k q h => by simp at h
  have hD0 : ∀ A : Nat → Prop, va_D A [] := fun A => ⟨fun i j p q h => by simp at h, fun k q h => by simp at h⟩
  refine va_new (D := D) (ci := 8) (C := RX6) (T := TX6) (N := 11) (fs := [.null, .null, .null, .null, .null, .null, .int (nI 0), .int (nI 0), .int (nI 0), .int (nI 0), .int (nI 0)]) hx hb hts wl_in_wsX60 tyX6 tyX6_ok hown (hts (.classLink RL 8 RX6) (List.mem_of_getElem? (i := 106) (by decide +kernel))) (hts (.instantiable RX6 11) (List.mem_of_getElem? (i := 107) (by decide +kernel))) (hts (.initialized RX6) (List.mem_of_getElem? (i := 80) (by decide +kernel))) hT.1.1 (hP0 _) (hD0 _) hS hA rfl (fun j hj => by rcases (show j = 0 ∨ j = 1 ∨ j = 2 ∨ j = 3 ∨ j = 4 ∨ j = 5 ∨ j = 6 ∨ j = 7 ∨ j = 8 ∨ j = 9 ∨ j = 10 by omega) with rfl | rfl | rfl | rfl | rfl | rfl | rfl | rfl | rfl | rfl | rfl <;> rfl) (Nat.le_of_ble_eq_true rfl) (Nat.le_of_ble_eq_true rfl) dL_law_0 (fun h6 H hP hD hS => ?_)
  have hP : va_P D vwCl [(h6, .inr (8, [.null, .null, .null, .null, .null, .null, .int (nI 0), .int (nI 0), .int (nI 0), .int (nI 0), .int (nI 0)]))] H := hP
  have hD : va_D (lAN s) [(h6, .inr (8, [.null, .null, .null, .null, .null, .null, .int (nI 0), .int (nI 0), .int (nI 0), .int (nI 0), .int (nI 0)]))] := hD
  refine lv_dup hx hb dL_law_3 rfl ?_
  refine nv_kQv (A1 := lAN s) (S := Nat → Nat) (post := fun AD => AD 0 = h6) (B := fun AD H9 => cInj AD ∧ (∀ i, i < 165 → lAN s (AD i)) ∧ cW D cI cC cD cR AD gNew (fun _ => 0) (fun _ => 0) (fun _ => 0) (fun _ => 0) 0 0 0 0 0 (-1) (-1) (nI 0) H9) (va_runI (As := []) (rest := [.ref h6]) ⟨hx, hb, hml, hown, hts⟩ (c_X6_init l (A := lAN s) s.heap.size hA hD (fun _ => 0) (fun _ => 0) (fun _ => 0)) ⟨callB_of 0 hts gL_law_X6_init rfl rfl rfl (hts (.initialized RX6) (List.mem_of_getElem? (i := 80) (by decide +kernel))) (hts (.methodLink RL 142 yX6_init) (List.mem_of_getElem? (i := 108) (by decide +kernel))) (by decide +kernel) ⟨Nat.le_of_ble_eq_true rfl, Nat.le_of_ble_eq_true rfl⟩, rfl, hts (.instanceMethod yX6_init) (List.mem_of_getElem? (i := 109) (by decide +kernel))⟩ (nt_pSn hT hS (fun _ h9 => h9) ⟨hS.1, hP⟩) rfl rfl hl.1 rfl (lv_room (Nat.le_of_ble_eq_true rfl)) dL_law_4 ⟨Nat.le_of_ble_eq_true rfl, Nat.le_of_ble_eq_true rfl⟩) hS (fun _ h9 => h9) (fun AD H1 locs1 hp9 hB9 hK1 hS1 => ?_)
  obtain ⟨hI, hAD, hcW⟩ := hB9
  subst hp9
  have hlt := cW_lt hcW
  have hf1 := hS1
  refine lv_astore_n (lv' := [(1, .ref (AD 0)), (0, .ref b)]) hx hb dL_law_7 rfl hl (by decide) rfl (fun ls hl => ?_)
  refine va_forget (fun q hq => hS1.2.2 q hq) ?_
  have hA7 : ∀ q : Nat, H1.size ≤ q → (fun q : Nat => H1.size ≤ q) q := fun _ h => h
  refine va_new (D := D) (ci := 9) (C := RX7) (T := TX7) (N := 18) (fs := [.null, .null, .null, .int (nI 0), .null, .int (nI 0), .null, .int (nI 0), .int (nI 0), .int (nI 0), .int (nI 0), .int (nI 0), .null, .int (nI 0), .int (nI 0), .int (nI 0), .int (nI 0), .null]) (A := fun q : Nat => H1.size ≤ q) (H0 := H1) hx hb hts wl_in_wsX70 tyX7 tyX7_ok hown (hts (.classLink RL 143 RX7) (List.mem_of_getElem? (i := 1317) (by decide +kernel))) (hts (.instantiable RX7 18) (List.mem_of_getElem? (i := 1318) (by decide +kernel))) (hts (.initialized RX7) (List.mem_of_getElem? (i := 91) (by decide +kernel))) hT.1.1 (hP0 _) (hD0 _) va_S.rf hA7 rfl (fun j hj => by rcases (show j = 0 ∨ j = 1 ∨ j = 2 ∨ j = 3 ∨ j = 4 ∨ j = 5 ∨ j = 6 ∨ j = 7 ∨ j = 8 ∨ j = 9 ∨ j = 10 ∨ j = 11 ∨ j = 12 ∨ j = 13 ∨ j = 14 ∨ j = 15 ∨ j = 16 ∨ j = 17 by omega) with rfl | rfl | rfl | rfl | rfl | rfl | rfl | rfl | rfl | rfl | rfl | rfl | rfl | rfl | rfl | rfl | rfl | rfl <;> rfl) (Nat.le_of_ble_eq_true rfl) (Nat.le_of_ble_eq_true rfl) dL_law_8 (fun h7 H2 hP hD hS2 => ?_)
  have hP : va_P D vwCl [(h7, .inr (9, [.null, .null, .null, .int (nI 0), .null, .int (nI 0), .null, .int (nI 0), .int (nI 0), .int (nI 0), .int (nI 0), .int (nI 0), .null, .int (nI 0), .int (nI 0), .int (nI 0), .int (nI 0), .null]))] H2 := hP
  have hD : va_D (fun q : Nat => H1.size ≤ q) [(h7, .inr (9, [.null, .null, .null, .int (nI 0), .null, .int (nI 0), .null, .int (nI 0), .int (nI 0), .int (nI 0), .int (nI 0), .int (nI 0), .null, .int (nI 0), .int (nI 0), .int (nI 0), .int (nI 0), .null]))] := hD
  refine lv_dup hx hb dL_law_11 rfl ?_
  have hK7 : kS D [(cI, .int), (cC, .char)] [] s := ⟨hT.1.1.sub [0, 1] rfl, fun _ h9 => nomatch h9⟩
  refine nv_kQv (A1 := fun q : Nat => H1.size ≤ q) (S := Nat × Nat × Nat × Nat × Nat × Nat × Nat) (post := fun _ => True) (B := fun u H9 => va_P D vwCl (w7 cI cC h7 u) H9 ∧ va_D (fun q : Nat => H1.size ≤ q) (w7 cI cC h7 u)) (va_runI (As := []) (rest := [.ref h7]) ⟨hx, hb, hml, hown, hts⟩ (c_X7_init l (A := fun q : Nat => H1.size ≤ q) H1.size hA7 hD) ⟨callB_of 0 hts gL_law_X7_init rfl rfl rfl (hts (.initialized RX7) (List.mem_of_getElem? (i := 91) (by decide +kernel))) (hts (.methodLink RL 145 yX7_init) (List.mem_of_getElem? (i := 1319) (by decide +kernel))) (by decide +kernel) ⟨Nat.le_of_ble_eq_true rfl, Nat.le_of_ble_eq_true rfl⟩, rfl, hts (.instanceMethod yX7_init) (List.mem_of_getElem? (i := 1320) (by decide +kernel))⟩ (nv_pS hK7 ⟨hS2.1, hP⟩) rfl rfl hl.1 rfl (lv_room (Nat.le_of_ble_eq_true rfl)) dL_law_12 ⟨Nat.le_of_ble_eq_true rfl, Nat.le_of_ble_eq_true rfl⟩) hS2 (fun _ h9 => h9) (fun u H3 locs3 hp9 hB9 hK3 hS3 => ?_)
  obtain ⟨aG, aB, aH, aS, aI, aL, aT⟩ := u
  obtain ⟨hP7, hD7⟩ := hB9
  have hge : ∀ q ∈ locs3, s.heap.size ≤ q.base := fun q hq => Nat.le_trans hS1.1 (hS3.2.2 q hq)
  have hcW := hcW.grow (fun q hq => hS3.2.1 q hq (Nat.not_le.mpr hq))
  refine lv_astore_n (lv' := [(2, .ref h7), (1, .ref (AD 0)), (0, .ref b)]) hx hb dL_law_15 rfl hl (by decide) rfl (fun ls hl => ?_)
  refine va_forget hge ?_
  refine lv_iconst (v := nI 1) hx hb dL_law_16 (by decide) ?_
  refine nv_newa (atype := .long) (ty := .long) (cA := cL) (t0 := 0) (A := fun q : Nat => H3.size ≤ q) (H0 := H3) (D := D) (cl := vwCl) (ws := []) (n := 1) (a0 := (1, .inr (.inl (fun _ => 0)))) hx hb (hts (.arrayClass .long) (List.mem_of_getElem? (i := 1761) (by decide +kernel))) rfl hLX.1 (hP0 _) (hD0 _) va_S.rf (fun _ h9 => h9) rfl (fun _ => rfl) (by decide) (Nat.le_of_ble_eq_true rfl) (Nat.le_of_ble_eq_true rfl) (Nat.le_of_ble_eq_true rfl) dL_law_17 (fun o H4 hPo hDo hS4 => ?_)
  have hPo : va_P D vwCl [(o, .inl (cL, 1, .inr (.inl (fun _ => 0))))] H4 := hPo
  have ho3 : H3.size ≤ o := hDo.2 0 _ rfl
  have hK4 : ∀ q : Nat, q < H3.size → H4[q]? = H3[q]? := fun q hq => hS4.2.1 q hq (Nat.not_le.mpr hq)
  have hlt7 := fun (k : Nat) (q : Nat × va_E) (hk : (w7 cI cC h7 (aG, aB, aH, aS, aI, aL, aT))[k]? = some q) => vx_lt hP7 hk
  have hcW := hcW.grow hK4
  have hP7 := hP7.kept (fun k q hk => hK4 q.1 (hlt7 k q hk))
  refine lv_astore_n (lv' := [(3, .ref o), (2, .ref h7), (1, .ref (AD 0)), (0, .ref b)]) hx hb dL_law_19 rfl hl (by decide) rfl (fun ls hl => ?_)
  refine va_forget (fun q hq => Nat.le_trans hS1.1 (Nat.le_trans hS3.1 (hS4.2.2 q hq))) ?_
  refine lv_iconst (v := nI 1) hx hb dL_law_20 (by decide) ?_
  refine nv_newa (atype := .double) (ty := .double) (cA := cB) (t0 := 1) (A := fun q : Nat => H4.size ≤ q) (H0 := H4) (D := D) (cl := vwCl) (ws := []) (n := 1) (a0 := (1, .inr (.inr (.inr (.inl (fun _ => 0)))))) hx hb (hts (.arrayClass .double) (List.mem_of_getElem? (i := 1762) (by decide +kernel))) rfl hLX.1 (hP0 _) (hD0 _) va_S.rf (fun _ h9 => h9) rfl (fun _ => rfl) (by decide) (Nat.le_of_ble_eq_true rfl) (Nat.le_of_ble_eq_true rfl) (Nat.le_of_ble_eq_true rfl) dL_law_21 (fun oD H5 hPd hDd hS5 => ?_)
  have hPd : va_P D vwCl [(oD, .inl (cB, 1, .inr (.inr (.inr (.inl (fun _ => 0))))))] H5 := hPd
  have hd4 : H4.size ≤ oD := hDd.2 0 _ rfl
  have ho4 : o < H4.size := vx_lt hPo (k := 0) rfl
  have hK5 : ∀ q : Nat, q < H4.size → H5[q]? = H4[q]? := fun q hq => hS5.2.1 q hq (Nat.not_le.mpr hq)
  have hcW := hcW.grow hK5
  have hlt7b : ∀ (k : Nat) (q : Nat × va_E), (w7 cI cC h7 (aG, aB, aH, aS, aI, aL, aT))[k]? = some q → q.1 < H4.size := fun k q hk => Nat.lt_of_lt_of_le (hlt7 k q hk) hS4.1
  have hP7 := hP7.kept (fun k q hk => hK5 q.1 (hlt7b k q hk))
  have hO : outL D cL o (fun _ => True) H5 := ⟨fun _ => 0, trivial, hPo.kept (fun k q hk => hK5 q.1 (vx_lt hPo hk))⟩
  have hOB : outB D cB oD (fun _ => True) H5 := ⟨fun _ => 0, trivial, hPd⟩
  refine lv_astore (lv' := [(4, .ref oD), (3, .ref o), (2, .ref h7), (1, .ref (AD 0)), (0, .ref b)]) hx hb dL_law_23 hl (by decide) rfl (fun ls hl => ?_)
  refine lv_iconst (v := nI 0) hx hb dL_law_25 (by decide) ?_
  refine lv_istore (lv' := [(5, .int (nI (6 * 0))), (4, .ref oD), (3, .ref o), (2, .ref h7), (1, .ref (AD 0)), (0, .ref b)]) hx hb dL_law_26 hl (by decide) rfl (fun ls hl => ?_)
  refine va_forget (fun q hq => Nat.le_trans hS1.1 (Nat.le_trans hS3.1 (Nat.le_trans hS4.1 (hS5.2.2 q hq)))) ?_
  have hs13 : H1.size ≤ H3.size := hS3.1
  have hs34 : H3.size ≤ H4.size := hS4.1
  have hn : ∀ q : Nat, H1.size ≤ q → ¬ cRg AD 0 165 q := fun q hq ⟨i, _, hi, e9⟩ => by
    have := hlt i hi
    omega
  have hC : lC p l s m #[Value.ref b] c D cI cC cD cR cL cB sa AD h7 aG aB aH aS aI aL aT o oD b L xs :=
    ⟨hx, hb, hml, hown, hts, hl9, hX, hbl, hL, hT, hLX, hI, hAD, ⟨Nat.le_trans hS1.1 (by omega), hn o (by omega)⟩, ⟨Nat.le_trans hS1.1 (by omega), hn oD (by omega)⟩, by omega, fun G9 B9 Hi9 Sv9 In9 Le9 To9 fs9 => hD7.moved rfl (fun k q hk => by
      have h1 := hD7.2 k q hk
      have h2 := hlt7 k q hk
      have h1 : H1.size ≤ q.1 := h1
      exact ⟨Nat.le_trans hS1.1 h1, hn _ h1, by omega, by omega⟩)⟩
  have hF : lF 0 gNew (fun _ => 0) (fun _ => 0) (fun _ => 0) (fun _ => 0) 0 0 0 0 0 := ⟨25, gWf_new, Nat.le_refl 25, by omega, by omega, by omega, fun j hj => absurd hj (Nat.not_lt_zero j), by omega, fun q => absurd q (by decide), by omega, fun i hi => absurd hi (Nat.not_lt_zero i), by omega, fun i hi => absurd hi (Nat.not_lt_zero i), by decide⟩
  have hLI : lI D cI cC cD cR cL cB AD h7 aG aB aH aS aI aL aT o oD 0 H5 := ⟨_, _, _, _, _, _, _, _, _, _, _, _, _, _, _, _, _, _, hP7, hcW, hF, hO, hOB⟩
  have hS9 : va_S (lAN s) s.heap H5 [] := ⟨Nat.le_trans hS1.1 (by have := hS5.1; omega), fun q hq hn9 => by
    have h1 := hS1.1
    rw [hK5 q (by omega), hK4 q (by omega), hS3.2.1 q (by omega) (by omega)]
    exact hS1.2.1 q hq hn9, fun _ h9 => nomatch h9⟩
  refine W.widen (k := 175 + 3 * 0) (n := 3554 + 18 * 0) (by omega) (by omega) ?_
  exact law_loop hC hr hlocks 513 0 (Nat.zero_le _) (by omega) H5 [] ls hLI hS9 (lv_sub hl [5, 4, 3, 2, 1, 0] rfl)
