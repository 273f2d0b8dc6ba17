/-! a String that is made is a text -/
theorem va_S.trans {A B : Nat → Prop} {H0 H1 H2 : Heap} {l1 l2 : List Loc} (h1 : va_S A H0 H1 l1) (h2 : va_S B H1 H2 l2) (hBA : ∀ q, B q → A q) : va_S A H0 H2 l2 := ⟨Nat.le_trans h1.1 h2.1, fun q hq hA => (h2.2.1 q (Nat.lt_of_lt_of_le hq h1.1) (fun h => hA (hBA q h))).trans (h1.2.1 q hq hA), fun l hl => hBA _ (h2.2.2 l hl)⟩
theorem va_S.wid {A B : Nat → Prop} {H0 H1 : Heap} {l1 : List Loc} (h1 : va_S A H0 H1 l1) (hBA : ∀ q, A q → B q) : va_S B H0 H1 l1 := ⟨h1.1, fun q hq hA => h1.2.1 q hq (fun h => hA (hBA q h)), fun l hl => hBA _ (h1.2.2 l hl)⟩
theorem va_S.none {A : Nat → Prop} {H0 H1 : Heap} {l1 : List Loc} (h1 : va_S A H0 H1 l1) : va_S A H0 H1 [] := ⟨h1.1, h1.2.1, fun _ h => by cases h⟩
theorem sbP.lt {D : va_G} {cB : ClassId} {n0 a : Nat} {L : List Nat} {H : Heap} (h : sbP D cB n0 a L H) : n0 ≤ H.size := by
  obtain ⟨b, m, F, hP, -, ha, -⟩ := h
  exact Nat.le_trans ha (Nat.le_of_lt (hP 0 _ rfl).lt)
theorem sbP.recv {D : va_G} {cB : ClassId} {n0 a : Nat} {L : List Nat} {s : State} {H : Heap} (hB : bK D cB s) (h : sbP D cB n0 a L H) : ∃ cell : Cell, H[a]? = some cell ∧ cell.vm.isStatics = false ∧ s.vm.findClass RJ4 = some cell.cls := by
  obtain ⟨b, m, F, hP, -⟩ := h
  exact va_recv hB.1 hP (ci := 9) (q0 := 0) rfl rfl
theorem stP.wid {D : va_G} {cB : ClassId} {n0 n1 r : Nat} {L : List Nat} {H : Heap} (h : stP D cB n0 L r H) (hn : n1 ≤ n0) : stP D cB n1 L r H := by
  obtain ⟨v, F, hP, hr, hv, hF⟩ := h
  exact ⟨v, F, hP, Nat.le_trans hn hr, Nat.le_trans hn hv, hF⟩
theorem stP.lt {D : va_G} {cB : ClassId} {n0 r : Nat} {L : List Nat} {H : Heap} (h : stP D cB n0 L r H) : n0 ≤ H.size := by
  obtain ⟨v, F, hP, hr, -⟩ := h
  exact Nat.le_trans hr (Nat.le_of_lt (hP 0 _ rfl).lt)
theorem stP.tx {D : va_G} {tys : List (ClassId × FieldType)} {cB : ClassId} {A A1 : Nat → Prop} {n0 r : Nat} {L : List Nat} {s : State} {H : Heap} {q0 : tQ} (h0 : tx A q0 s s.heap) (hK : va_K D vwCl tys s) (hB : bK D cB s) (h : stP D cB n0 L r H) (h9 : L.length < 1000) (h8 : ∀ c ∈ L, c < 128) (hA : ∀ q, n0 ≤ q → q < H.size → ¬ A1 q) : ∃ v : Nat, n0 ≤ r ∧ n0 ≤ v ∧ tx A1 (r, v, L) s H := by
  obtain ⟨v, F, hP, hr, hv, hF⟩ := h
  have l0 : r < H.size := (hP 0 _ rfl).lt
  have l1 : v < H.size := (hP 1 _ rfl).lt
  obtain ⟨c0, d1, cell, q1, q2, q3, q4⟩ := hP 0 _ rfl
  cases d1
  obtain ⟨hSl, hfc, -⟩ := hK.1 0 _ rfl
  obtain ⟨cf0, kf0, fi0, fd0, hi0, hs0⟩ := hSl 0 (by decide)
  obtain ⟨cf1, kf1, fi1, fd1, hi1, hs1⟩ := hSl 1 (by decide)
  obtain ⟨-, -, -, ⟨dc, dk, di, df, -, x1, x2, -⟩, ⟨ec, ek, ei, ef, -, y1, y2, -⟩, -⟩ := h0
  have z1 : s.fieldFound? "java/lang/String" "coder" "B" = some (cf1, kf1, fi1, fd1) := hi1
  have z0 : s.fieldFound? "java/lang/String" "value" "[B" = some (cf0, kf0, fi0, fd0) := hi0
  cases x1.symm.trans z1
  cases y1.symm.trans z0
  have k0 : cell.slots[fd0.slot]? = some (.ref v) := by rw [hs0]; exact q4 0 (by decide)
  have k1 : cell.slots[fd1.slot]? = some (.int 0) := by rw [hs1]; exact (q4 1 (by decide)).trans (by show some (Value.int (nI 0)) = _; rw [nI_0])
  have hu : cell.vm ≠ .unknown := by rw [q3]; exact fun h => by cases h
  have hc : H[v]? = some (arrV cB L.length (fun j => .int (gN F j))) := hP 1 _ rfl
  refine ⟨v, hr, hv, h9, h8, ⟨cell, q1, by rw [q3]; rfl, by rw [q2]; exact hfc, hA _ hr l0⟩, ⟨_, _, _, _, cell, z1, x2, q1, hu, k1, hA _ hr l0⟩, ⟨_, _, _, _, cell, z0, y2, q1, hu, k0, hA _ hr l0⟩, ⟨_, hc, (hB.1.2 0 _ rfl).1 _ _, (fun h => by cases h), ?_, ?_, fun j hj => ?_, hA _ hv l1⟩⟩
  · show L.length ≤ (Array.ofFn _).size
    rw [Array.size_ofFn]
    exact Nat.le_refl _
  · show (Array.ofFn _).size.toInt32 = _
    rw [Array.size_ofFn]
  · show (Array.ofFn (n := L.length) fun j => Value.int (gN F j.val))[j]? = _
    rw [Array.getElem?_ofFn, dif_pos hj]
    show some (Value.int (nI (F j))) = some (Value.int (nI (L.getD j 0)))
    rw [hF j hj]
theorem lX.narrow {D : va_G} {cB : ClassId} {A A1 : Nat → Prop} {U : State} {H : Heap} (h : lX D cB A U H) (hA : ∀ q, A1 q → A q) : lX D cB A1 U H := ⟨h.1, h.2.1, fun q hq => by
  obtain ⟨r, v, h1, h2⟩ := h.2.2 q hq
  exact ⟨r, v, h1, h2.narrow hA⟩⟩
section NTI
variable {p : Program} {l : Launch} {e : Env} {R : Room} {s : State} {m : MethodId} {args : Array Value} {below : List Frame} {meth : Method} {c : Code} {H : Heap} {locs : List Loc} {cells slots : Nat} {Q : State → Prop} {pc : Nat} {ls : Array Slot} {rest : List Value}
theorem nv_toi (y : Int32) {x : Int32} (h : x = y) (k : W p l e R s m args below meth c H locs cells slots Q (F0 m pc ls (.int y :: rest))) : W p l e R s m args below meth c H locs cells slots Q (F0 m pc ls (.int x :: rest)) := by rw [h]; exact k
end NTI
theorem nI_ne_m1 : ∀ j, j ≤ 60 → ¬ nI j = -1 := by decide +kernel
set_option maxHeartbeats 1000000 in
set_option maxRecDepth 100000 in
theorem c_L_isLine (l : Launch) (hl9 : l.stackTraces = false) {D : va_G} {cI cC cD cR cB : ClassId} {sa : sA} {AD : Nat → Nat} {G Sv Hi In Le : Nat → Nat} {hs ch ty wy ln k : Nat} {ea ra wd : Int32} (hI : cInj AD) (hF : lF k G Sv Hi In Le hs ch ty wy ln) {r v : Nat} {T : List Nat} (h16 : T.length ≤ 16) (hlnT : ln = T.length) (hLt : ∀ j, j < T.length → Le j = T.getD j 0) : vx_Met l yL_isLine wsL_isLine ({ frames := 7, cells := 16, slots := 96, locals := 103 }) (va_Pc [.ref (AD 0), .int (nI T.length), .ref r] (lPre D [(cI, .int), (cC, .char), (cD, .object "DoorDialect$Door"), (cR, .object "DoorDialect$House")] nN sa (cRg AD 0 165) cB (cW D cI cC cD cR AD G Sv Hi In Le hs ch ty wy ln ea ra wd) [(r, v, T)])) (gQ (nI 1) (cW D cI cC cD cR AD G Sv Hi In Le hs ch ty wy ln ea ra wd) (cRg AD 0 165)) noX 16 96 (cRg AD 0 165) := by
  refine nv_metX (cc := cL_isLine) (maxL := 4) (ret := (some .boolean)) (by decide) rfl (Nat.le_of_ble_eq_true rfl) ?_
  intro p0 e0 s m0 args below meth c0 Q hq hargs hnA hout hpre ls hl
  obtain ⟨hx, hb, hr, hts, hown, hlocks, hml⟩ := hnA
  obtain ⟨hP, hT, hX, htl⟩ := hpre
  have hown : s.vm.findClass RL = some m0.cls := hown
  have hl : lv_has ls 4 [(0, .ref (AD 0)), (1, .int (nI T.length)), (2, .ref r)] := hl
  have hS : va_S (cRg AD 0 165) s.heap s.heap [] := va_S.rf
  obtain ⟨bb, hG, h25, hbk, hk5, hch, hHb, hhs, hSvb, hty, hIn7, hln, hLe, hwy⟩ := id hF
  have hHw : ∀ j, j < ch → hAt Hi j 0 ≤ 8 ∧ hAt Hi j 1 ≤ 6 ∧ hAt Hi j 2 ≤ 5 := fun j hj => ⟨(hHb j hj).2.2.1, (hHb j hj).2.2.2.1, (hHb j hj).2.2.2.2.1⟩
  have hbb : bb + 1 < 2 ^ 20 := by omega
  have hb32 : bb + 32 < 2 ^ 20 := by omega
  have hx1 : tx (cRg AD 0 165) (r, v, T) s s.heap := htl _ List.mem_cons_self
  have hO9 : va_O "java/lang/String" r (cRg AD 0 165) s s.heap := hx1.2.2.1
  refine lv_iload_n hx hb dL_isLine_0 rfl (lv_at hl 1 rfl) ?_
  refine lv_aload_n hx hb dL_isLine_1 rfl (lv_at hl 2 rfl) ?_
  refine nv_kS (va_runV (As := []) (rest := [.int (nI T.length)]) ⟨hx, hb, hml, hown, hts⟩ (c_T_length l (A := cRg AD 0 165)) (cwV 0 hts gL_isLine_J0_length_8abf5 rfl rfl rfl (by decide +kernel) ⟨Nat.le_of_ble_eq_true rfl, Nat.le_of_ble_eq_true rfl⟩) (nx_pV hT hX.1 (tx1 (hx1.go hS (fun _ h => h))) hS (fun q h => h) trivial (va_Orecv hO9 hS)) rfl rfl hl.1 rfl (lv_room (Nat.le_of_ble_eq_true rfl)) dL_isLine_2 ⟨Nat.le_of_ble_eq_true rfl, Nat.le_of_ble_eq_true rfl⟩) ?_
  refine nv_icmp_eq (tgt := 10) hx hb dL_isLine_5 (by decide) (by omega) (by omega) (fun _ => ?_) (fun c => absurd rfl c)
  refine lv_iconst (v := nI 0) hx hb dL_isLine_10 (by decide) ?_
  refine lv_istore_n (lv' := [(3, .int (nI 0)), (0, .ref (AD 0)), (1, .int (nI T.length)), (2, .ref r)]) hx hb dL_isLine_11 rfl hl (by decide) rfl (fun ls hl => ?_)
  have hloop : ∀ (n j : Nat), j + n = T.length → ∀ (H : Heap) (locs : List Loc) (ls : Array Slot), (cW D cI cC cD cR AD G Sv Hi In Le hs ch ty wy ln ea ra wd) H → va_S (cRg AD 0 165) s.heap H locs → lv_has ls 4 [(3, .int (nI j)), (0, .ref (AD 0)), (1, .int (nI T.length)), (2, .ref r)] → W p0 l e0 ({ frames := 7, cells := 16, slots := 96, locals := 103 }) s m0 args below meth c0 H locs j (6 * j) Q (F0 m0 12 ls []) := by
    intro n
    induction n with
    | zero =>
      intro j hj H locs ls hP hS hl
      refine lv_iload_n hx hb dL_isLine_12 rfl (lv_at hl 0 rfl) ?_
      refine lv_iload_n hx hb dL_isLine_13 rfl (lv_at hl 2 rfl) ?_
      refine nv_icmp_ge (tgt := 38) hx hb dL_isLine_14 (by decide) (by omega) (by omega) (fun c1 => ?_) (fun c1 => absurd (show T.length ≤ j by omega) c1)
      refine lv_iconst (v := nI 1) hx hb dL_isLine_38 (by decide) ?_
      exact nv_retLz hq hx hb hr hlocks (by omega) (by omega) (nar_z (by omega)) rfl hS hP dL_isLine_39
    | succ n ih =>
      intro j hj H locs ls hP hS hl
      refine lv_iload_n hx hb dL_isLine_12 rfl (lv_at hl 0 rfl) ?_
      refine lv_iload_n hx hb dL_isLine_13 rfl (lv_at hl 2 rfl) ?_
      refine nv_icmp_ge (tgt := 38) hx hb dL_isLine_14 (by decide) (by omega) (by omega) (fun c1 => absurd c1 (by omega)) (fun c1 => ?_)
      refine lv_aload_n hx hb dL_isLine_17 rfl (lv_at hl 1 rfl) ?_
      refine lv_iload_n hx hb dL_isLine_18 rfl (lv_at hl 0 rfl) ?_
      have hj9 : j < ln := by omega
      have hir := iR_nI hj9 (by omega)
      refine nv_kLX (vx_runV (As := [.int (nI j)]) (rest := []) ⟨hx, hb, hml, hown, hts⟩ (c_X6_character l hl9 (A := cRg AD 0 165) hG hI cRg_self (nI j) hln hLe) (cwV 1 hts gL_isLine_X6_character rfl rfl rfl (by decide +kernel) ⟨Nat.le_of_ble_eq_true rfl, Nat.le_of_ble_eq_true rfl⟩) (nt_pVn hT hS (fun _ h => h) hP (va_recv hT.1.1 hP.1 (ci := 8) (q0 := 0) rfl rfl)) rfl rfl hl.1 rfl (lv_room (Nat.le_of_ble_eq_true rfl)) dL_isLine_19 ⟨by show j + 1 ≤ 16; omega, by show 6 * j + 6 ≤ 96; omega⟩) hS (fun _ h => h) (fun E ce q9 H1 locs1 h0 hE hP1 hK1 hS1 hcell hv9 hcl => absurd (by rw [if_pos hir]) h0) (fun H locs h0 hP hK hS => ?_)
      refine nv_to (T.getD j 0) (by rw [if_pos hir, tN_nI (by omega), hLt j (by omega)]) ?_
      refine lv_aload_n hx hb dL_isLine_22 rfl (lv_at hl 3 rfl) ?_
      refine lv_iload_n hx hb dL_isLine_23 rfl (lv_at hl 0 rfl) ?_
      refine nv_kS (va_runV (As := [.int (nI j)]) (rest := [.int (nI (T.getD j 0))]) ⟨hx, hb, hml, hown, hts⟩ (c_T_charAt l (A := cRg AD 0 165) j (by omega)) (cwV 1 hts gL_isLine_J0_charAt_5068e rfl rfl rfl (by decide +kernel) ⟨Nat.le_of_ble_eq_true rfl, Nat.le_of_ble_eq_true rfl⟩) (nx_pV hT hX.1 (tx1 (hx1.go hS (fun _ h => h))) hS (fun _ h => h) trivial (va_Orecv hO9 hS)) rfl rfl hl.1 rfl (lv_room (Nat.le_of_ble_eq_true rfl)) dL_isLine_24 ⟨by show j + 1 + 0 ≤ 16; omega, by show 6 * j + 6 + 0 ≤ 96; omega⟩) ?_
      have hc9 : T.getD j 0 < 65536 := by rw [← hLt j (by omega)]; exact hLe j hj9
      refine nv_icmp_eq (tgt := 32) hx hb dL_isLine_27 (by decide) (by omega) (by omega) (fun _ => ?_) (fun c => absurd rfl c)
      refine lv_iinc (v := nI (j + 1)) (lv' := [(3, .int (nI (j + 1))), (0, .ref (AD 0)), (1, .int (nI T.length)), (2, .ref r)]) hx hb dL_isLine_32 hl (k := 0) rfl (by show nI _ + Int32.ofInt 1 = _; exact nI_add _ 1) (by decide) rfl (fun ls hl => ?_)
      refine lv_goto (tgt := 12) hx hb dL_isLine_35 (by decide) ?_
      refine W.widen (k := j + 1) (n := 6 * (j + 1)) (by omega) (by omega) ?_
      exact ih (j + 1) (by omega) _ _ _ hP hS hl
  exact hloop T.length 0 (by omega) _ _ _ hP hS hl
set_option maxHeartbeats 1000000 in
set_option maxRecDepth 100000 in
theorem c_L_faults (l : Launch) (hl9 : l.stackTraces = false) {D : va_G} {cI cC cD cR cB : ClassId} {sa : sA} {AD : Nat → Nat} {G Sv Hi In Le : Nat → Nat} {hs ch ty wy ln k : Nat} {ea ra wd : Int32} (hI : cInj AD) (hF : lF k G Sv Hi In Le hs ch 0 wy ln) {r v : Nat} {T : List Nat} (hTo : okT T) (h60 : T.length ≤ 60) (hk : k + T.length ≤ 512) {pl : Nat} (hp60 : pl ≤ 60) (hm : mal (wrL T In 0) (0 + T.length)) (hpl : (oE (wrL T In 0) (0 + T.length) (sn (wrL T In 0) (0 + T.length) (kL (wrL T In 0) (0 + T.length)))).1 = pl) : vx_Met l yL_faults wsM_faults ({ frames := 11, cells := 62, slots := 372, locals := 247 }) (va_Pc [.ref (AD 0), .ref r, .int (nI pl)] (lPre D [(cI, .int), (cC, .char), (cD, .object "DoorDialect$Door"), (cR, .object "DoorDialect$House")] nN sa (cRg AD 0 165) cB (cW D cI cC cD cR AD G Sv Hi In Le hs ch 0 wy ln ea ra wd) [(r, v, T)])) (gQ (nI 1) (cW D cI cC cD cR AD G Sv Hi (wrL T In 0) Le hs ch 0 wy ln (nI pl) ra wd) (cRg AD 0 165)) noX 62 372 (cRg AD 0 165) := by
  refine nv_metX (cc := cL_faults) (maxL := 3) (ret := (some .boolean)) (by decide) rfl (Nat.le_of_ble_eq_true rfl) ?_
  intro p0 e0 s m0 args below meth c0 Q hq hargs hnA hout hpre ls hl
  obtain ⟨hx, hb, hr, hts, hown, hlocks, hml⟩ := hnA
  obtain ⟨hP, hT, hX, htl⟩ := hpre
  have hown : s.vm.findClass RL = some m0.cls := hown
  have hl : lv_has ls 3 [(0, .ref (AD 0)), (1, .ref r), (2, .int (nI pl))] := hl
  have hS : va_S (cRg AD 0 165) s.heap s.heap [] := va_S.rf
  have hx1 : tx (cRg AD 0 165) (r, v, T) s s.heap := htl _ List.mem_cons_self
  refine lv_aload_n hx hb dL_faults_0 rfl (lv_at hl 0 rfl) ?_
  refine lv_aload_n hx hb dL_faults_1 rfl (lv_at hl 1 rfl) ?_
  refine nv_kNv (vx_runS (As := [.ref (AD 0), .ref r]) (rest := []) ⟨hx, hb, hml, hown, hts⟩ (c_L_put l hl9 hI (k := 0) hTo (ty := 0) (by omega)) (va_cwS 2 hts (goodIn_m gNL_faults_L_put wsM_f) rfl rfl rfl (by decide +kernel) ⟨Nat.le_of_ble_eq_true rfl, Nat.le_of_ble_eq_true rfl⟩) (nl_pS hT hX (tx1 (hx1.go hS (fun _ h => h))) hS (fun _ h => h) hP) rfl rfl hl.1 rfl (lv_room (Nat.le_of_ble_eq_true rfl)) dL_faults_2 ⟨Nat.le_of_ble_eq_true rfl, Nat.le_of_ble_eq_true rfl⟩) hS (fun _ h => h) (fun H locs hP hK hS => ?_)
  have hF1 := hF.wrAll hTo (by omega) (by omega)
  refine lv_aload_n hx hb dL_faults_5 rfl (lv_at hl 0 rfl) ?_
  refine nv_kN (vx_runSX (hh := [(0, 4, 5, 77), (0, 4, 8, 75)]) (As := [.ref (AD 0)]) (rest := []) ⟨hx, hb, hml, hown, hts⟩ (c_L_runs l hl9 hI hF1) (vx_cwSW 1 hts gM_faults_L_runs rfl rfl rfl (by decide +kernel) ⟨Nat.le_of_ble_eq_true rfl, Nat.le_of_ble_eq_true rfl⟩) (nl_pS hT hX tx0 hS (fun _ h => h) hP) rfl rfl hl.1 rfl (lv_room (Nat.le_of_ble_eq_true rfl)) dL_faults_6 ⟨Nat.le_of_ble_eq_true rfl, Nat.le_of_ble_eq_true rfl⟩) hS (fun _ h => h) (fun H locs hP hK hS => ?_)
  refine nv_toi (-1) (by unfold rdV; rw [if_pos hm]) ?_
  unfold rdW at hP
  simp only [if_pos hm, hpl] at hP
  refine lv_iconst (v := (-1)) hx hb dL_faults_9 (by decide) ?_
  refine lv_icmp_ne (tgt := 25) hx hb dL_faults_10 (by decide) (fun c => absurd rfl c) (fun _ => ?_)
  refine lv_aload_n hx hb dL_faults_13 rfl (lv_at hl 0 rfl) ?_
  have hpn := nI_ne_m1 pl hp60
  refine nv_kLX (vx_runV (As := []) (rest := []) ⟨hx, hb, hml, hown, hts⟩ (c_N6_errorPosition l hl9 (A := cRg AD 0 165) (b := 0)) (cwV 0 hts (goodIn_m gNL_faults_X6_errorPosition wsM_f) rfl rfl rfl (by decide +kernel) ⟨Nat.le_of_ble_eq_true rfl, Nat.le_of_ble_eq_true rfl⟩) (nt_pVn hT hS (fun _ h => h) hP (va_recv hT.1.1 hP.1 (ci := 8) (q0 := 0) rfl rfl)) rfl rfl hl.1 rfl (lv_room (Nat.le_of_ble_eq_true rfl)) dL_faults_14 ⟨Nat.le_of_ble_eq_true rfl, Nat.le_of_ble_eq_true rfl⟩) hS (fun _ h => h) (fun E ce q9 H1 locs1 h0 hE hP1 hK1 hS1 hcell hv9 hcl => absurd (if_neg hpn) h0) (fun H locs h0 hP hK hS => ?_)
  refine nv_to pl (if_neg hpn) ?_
  refine lv_iload_n hx hb dL_faults_17 rfl (lv_at hl 2 rfl) ?_
  refine nv_icmp_ne (tgt := 25) hx hb dL_faults_18 (by decide) (by omega) (by omega) (fun c => absurd rfl c) (fun _ => ?_)
  refine lv_iconst (v := nI 1) hx hb dL_faults_21 (by decide) ?_
  refine lv_goto (tgt := 26) hx hb dL_faults_22 (by decide) ?_
  exact nv_retLz hq hx hb hr hlocks (Nat.le_of_ble_eq_true rfl) (Nat.le_of_ble_eq_true rfl) (nar_z (by omega)) rfl hS hP dL_faults_26
set_option maxHeartbeats 1000000 in
set_option maxRecDepth 100000 in
theorem c_L_ending (l : Launch) (hl9 : l.stackTraces = false) {D : va_G} {cI cC cD cR cB : ClassId} {sa : sA} {n1 : Nat} : vx_Met l yL_ending wsL_ending ({ frames := 6, cells := 56, slots := 4272, locals := 191 }) (va_Pc [] (lPre D [(cI, .int), (cC, .char), (cD, .object "DoorDialect$Door"), (cR, .object "DoorDialect$House")] nN sa (aN n1) cB (fun H => n1 ≤ H.size) [])) (gQn (stP D cB n1 [105, 117, 101, 111, 47, 111, 97, 105, 117]) (aN n1)) noX 56 4272 (aN n1) := by
  refine nv_metX (cc := cL_ending) (maxL := 2) (ret := (some (.object "java/lang/String"))) (by decide) rfl (Nat.le_of_ble_eq_true rfl) ?_
  intro p0 e0 s m0 args below meth c0 Q hq hargs hnA hout hpre ls hl
  obtain ⟨hx, hb, hr, hts, hown, hlocks, hml⟩ := hnA
  obtain ⟨hP, hT, hX, htl⟩ := hpre
  have hown : s.vm.findClass RL = some m0.cls := hown
  have hl : lv_has ls 2 [] := hl
  have hS : va_S (aN n1) s.heap s.heap [] := va_S.rf
  have hn1 : n1 ≤ s.heap.size := hP
  have hT := hT.narrow (aN_sub hn1)
  have hX := hX.narrow (aN_sub hn1)
  have hS : va_S (aN s.heap.size) s.heap s.heap [] := va_S.rf
  have inj4 : ∀ w ∈ wsJ40, w ∈ wsL_ending := by decide +kernel
  obtain ⟨r94, v94, hZ94, hL94⟩ := hX.2.2 (94, "", []) (by decide)
  refine va_ldcS hx hb hown hZ94 dL_ending_0 ?_
  refine lv_astore_n (lv' := [(0, .ref r94)]) hx hb dL_ending_2 rfl hl (by decide) rfl (fun ls hl => ?_)
  refine lv_iconst (v := nI 0) hx hb dL_ending_3 (by decide) ?_
  refine lv_istore_n (lv' := [(1, .int (nI 0)), (0, .ref r94)]) hx hb dL_ending_4 rfl hl (by decide) rfl (fun ls hl => ?_)
  have hH9 : s.heap.size ≤ s.heap.size := Nat.le_refl _
  refine lv_iload_n hx hb dL_ending_5 rfl (lv_at hl 0 rfl) ?_
  refine lv_bipush (v := nI 8) hx hb dL_ending_6 (by decide) ?_
  refine nv_icmp_ge (tgt := 68) hx hb dL_ending_8 (by decide) (by omega) (by omega) (fun c => absurd c (by decide)) (fun _ => ?_)
  refine va_forget (fun q hq => hS.2.2 q hq) ?_
  have hn9 : s.heap.size ≤ s.heap.size := hS.1
  refine va_new (D := D) (ci := 9) (C := RJ4) (T := TJ4) (N := 4) (fs := [.null, .int (nI 0), .int (nI 0), .int (nI 0)]) (A := aN s.heap.size) (H0 := s.heap) (ws := []) hx hb hts inj4 tyJ4 tyJ4_ok hown (hts (.classLink RL 91 RJ4) (by decide +kernel)) (hts (.instantiable RJ4 4) (by decide +kernel)) (hts (.initialized RJ4) (by decide +kernel)) hX.1.1 (fun k q h => by simp at h) ⟨fun i j p q h => by simp at h, fun k q h => by simp at h⟩ va_S.rf (fun _ h => h) rfl (fun j hj => by rcases (show j = 0 ∨ j = 1 ∨ j = 2 ∨ j = 3 by omega) with rfl | rfl | rfl | rfl <;> rfl) (Nat.le_of_ble_eq_true rfl) (Nat.le_of_ble_eq_true rfl) dL_ending_11 (fun a0 H hP9 hD9 hS9 => ?_)
  have hPn : va_P D vwCl [(a0, .inr (9, [.null, .int (nI 0), .int (nI 0), .int (nI 0)]))] H := hP9
  have ha9 : s.heap.size ≤ a0 := hD9.2 0 _ rfl
  have hFr : ∀ q : Nat, q < s.heap.size → H[q]? = s.heap[q]? := fun q hq => hS9.2.1 q hq (Nat.not_le.mpr hq)
  have hSz : s.heap.size ≤ H.size := Nat.le_trans ha9 (Nat.le_of_lt (vx_lt hPn (k := 0) rfl))
  have hS : va_S (aN s.heap.size) s.heap H [] := hS.none.trans hS9 (aN_sub hn9)
  refine lv_dup hx hb dL_ending_14 rfl ?_
  refine nv_kGv (va_runI (As := []) (rest := [.ref a0]) ⟨hx, hb, hml, hown, hts⟩ (c_B_init l (n0 := s.heap.size) ha9) ⟨callB_of 0 hts gL_ending_J4_init_da8c8 rfl rfl rfl (hts (.initialized RJ4) (by decide +kernel)) (hts (.methodLink RL 93 yJ4_init_da8c8) (by decide +kernel)) (by decide +kernel) ⟨Nat.le_of_ble_eq_true rfl, Nat.le_of_ble_eq_true rfl⟩, rfl, (hts (.instanceMethod yJ4_init_da8c8) (by decide +kernel))⟩ (nx_pS hT hX.1 tx0 hS (aN_sub hn9) hPn) rfl rfl hl.1 rfl (lv_room (Nat.le_of_ble_eq_true rfl)) dL_ending_15 ⟨Nat.le_of_ble_eq_true rfl, Nat.le_of_ble_eq_true rfl⟩) hS (aN_sub hn9) (fun H locs hPn hK hS => ?_)
  have hFr : ∀ q : Nat, q < s.heap.size → H[q]? = s.heap[q]? := fun q hq => (hK q (Nat.lt_of_lt_of_le hq hSz) (Nat.not_le.mpr hq)).trans (hFr q hq)
  have hSz : s.heap.size ≤ H.size := hPn.lt
  refine lv_aload_n hx hb dL_ending_18 rfl (lv_at hl 1 rfl) ?_
  refine nv_kGr2 (va_runV (As := [.ref r94]) (rest := []) ⟨hx, hb, hml, hown, hts⟩ (c_B_appS l (n0 := s.heap.size) (r := r94) (v := v94) (L := []) (L0 := []) (by decide)) (cwV 1 hts gL_ending_J4_append_15ec4 rfl rfl rfl (by decide +kernel) ⟨Nat.le_of_ble_eq_true rfl, Nat.le_of_ble_eq_true rfl⟩) (nx_pV hT hX.1 (tx1 (hL94.go hS (aN_sub hn9))) hS (aN_sub hn9) hPn (sbP.recv hX.1 hPn)) rfl rfl hl.1 rfl (lv_room (Nat.le_of_ble_eq_true rfl)) dL_ending_19 ⟨Nat.le_of_ble_eq_true rfl, Nat.le_of_ble_eq_true rfl⟩) hS (aN_sub hn9) (fun H locs hPn hK hS => ?_)
  have hPn : sbP D cB s.heap.size a0 [] H := hPn
  have hFr : ∀ q : Nat, q < s.heap.size → H[q]? = s.heap[q]? := fun q hq => (hK q (Nat.lt_of_lt_of_le hq hSz) (Nat.not_le.mpr hq)).trans (hFr q hq)
  have hSz : s.heap.size ≤ H.size := hPn.lt
  refine lv_iload_n hx hb dL_ending_22 rfl (lv_at hl 0 rfl) ?_
  refine lv_iconst (v := nI 4) hx hb dL_ending_23 (by decide) ?_
  refine nv_icmp_ne (tgt := 32) hx hb dL_ending_24 (by decide) (by omega) (by omega) (fun _ => ?_) (fun c => absurd c (by decide))
  obtain ⟨r94, v94, hZ94, hL94⟩ := hX.2.2 (94, "", []) (by decide)
  refine va_ldcS hx hb hown hZ94 dL_ending_32 ?_
  refine nv_kGr2 (va_runV (As := [.ref r94]) (rest := []) ⟨hx, hb, hml, hown, hts⟩ (c_B_appS l (n0 := s.heap.size) (r := r94) (v := v94) (L := []) (L0 := []) (by decide)) (cwV 1 hts gL_ending_J4_append_15ec4 rfl rfl rfl (by decide +kernel) ⟨Nat.le_of_ble_eq_true rfl, Nat.le_of_ble_eq_true rfl⟩) (nx_pV hT hX.1 (tx1 (hL94.go hS (aN_sub hn9))) hS (aN_sub hn9) hPn (sbP.recv hX.1 hPn)) rfl rfl hl.1 rfl (lv_room (Nat.le_of_ble_eq_true rfl)) dL_ending_34 ⟨Nat.le_of_ble_eq_true rfl, Nat.le_of_ble_eq_true rfl⟩) hS (aN_sub hn9) (fun H locs hPn hK hS => ?_)
  have hPn : sbP D cB s.heap.size a0 [] H := hPn
  have hFr : ∀ q : Nat, q < s.heap.size → H[q]? = s.heap[q]? := fun q hq => (hK q (Nat.lt_of_lt_of_le hq hSz) (Nat.not_le.mpr hq)).trans (hFr q hq)
  have hSz : s.heap.size ≤ H.size := hPn.lt
  obtain ⟨r248, v248, hZ248, hL248⟩ := hX.2.2 (248, "aeiou", [97, 101, 105, 111, 117]) (by decide)
  refine va_ldcS hx hb hown hZ248 dL_ending_37 ?_
  refine lv_iconst (v := nI 2) hx hb dL_ending_39 (by decide) ?_
  refine lv_iconst (v := nI 2) hx hb dL_ending_40 (by decide) ?_
  refine lv_iload_n hx hb dL_ending_41 rfl (lv_at hl 0 rfl) ?_
  refine lv_iconst (v := nI 4) hx hb dL_ending_42 (by decide) ?_
  refine lv_irem hx hb dL_ending_43 (by decide) ?_
  refine nv_to 0 (by decide +kernel) ?_
  refine nv_imul hx hb dL_ending_44 ?_
  refine nv_iadd hx hb dL_ending_45 ?_
  refine lv_iload_n hx hb dL_ending_46 rfl (lv_at hl 0 rfl) ?_
  refine lv_iconst (v := nI 4) hx hb dL_ending_47 (by decide) ?_
  refine lv_idiv hx hb dL_ending_48 (by decide) ?_
  refine nv_to 0 (by decide +kernel) ?_
  refine nv_iadd hx hb dL_ending_49 ?_
  refine lv_iconst (v := nI 5) hx hb dL_ending_50 (by decide) ?_
  refine lv_irem hx hb dL_ending_51 (by decide) ?_
  refine nv_to 2 (by decide +kernel) ?_
  refine nv_kS (va_runV (As := [.int (nI 2)]) (rest := [.ref a0]) ⟨hx, hb, hml, hown, hts⟩ (c_T_charAt l (A := aN s.heap.size) 2 (by decide)) (cwV 1 hts gL_ending_J0_charAt_5068e rfl rfl rfl (by decide +kernel) ⟨Nat.le_of_ble_eq_true rfl, Nat.le_of_ble_eq_true rfl⟩) (nx_pV hT hX.1 (tx1 (hL248.go hS (fun _ h => h))) hS (fun _ h => h) trivial (va_Orecv hL248.2.2.1 hS)) rfl rfl hl.1 rfl (lv_room (Nat.le_of_ble_eq_true rfl)) dL_ending_52 ⟨Nat.le_of_ble_eq_true rfl, Nat.le_of_ble_eq_true rfl⟩) ?_
  refine nv_to 105 rfl ?_
  refine nv_kGr2 (va_runV (As := [.int (nI 105)]) (rest := []) ⟨hx, hb, hml, hown, hts⟩ (c_B_appC l (n0 := s.heap.size) (L0 := []) 105 (by decide) (by show _ ≤ 60; decide)) (cwV 1 hts gL_ending_J4_append_cf468 rfl rfl rfl (by decide +kernel) ⟨Nat.le_of_ble_eq_true rfl, Nat.le_of_ble_eq_true rfl⟩) (nx_pV hT hX.1 tx0 hS (aN_sub hn9) hPn (sbP.recv hX.1 hPn)) rfl rfl hl.1 rfl (lv_room (Nat.le_of_ble_eq_true rfl)) dL_ending_55 ⟨Nat.le_of_ble_eq_true rfl, Nat.le_of_ble_eq_true rfl⟩) hS (aN_sub hn9) (fun H locs hPn hK hS => ?_)
  have hPn : sbP D cB s.heap.size a0 [105] H := hPn
  have hFr : ∀ q : Nat, q < s.heap.size → H[q]? = s.heap[q]? := fun q hq => (hK q (Nat.lt_of_lt_of_le hq hSz) (Nat.not_le.mpr hq)).trans (hFr q hq)
  have hSz : s.heap.size ≤ H.size := hPn.lt
  refine nv_kGn (va_runV (As := []) (rest := []) ⟨hx, hb, hml, hown, hts⟩ (c_B_toString l (n0 := s.heap.size) (L0 := [105]) (by decide)) (cwV 0 hts gL_ending_J4_toString_0e30d rfl rfl rfl (by decide +kernel) ⟨Nat.le_of_ble_eq_true rfl, Nat.le_of_ble_eq_true rfl⟩) (nx_pV hT hX.1 tx0 hS (aN_sub hn9) hPn (sbP.recv hX.1 hPn)) rfl rfl hl.1 rfl (lv_room (Nat.le_of_ble_eq_true rfl)) dL_ending_58 ⟨Nat.le_of_ble_eq_true rfl, Nat.le_of_ble_eq_true rfl⟩) hS (aN_sub hn9) (fun t0 K0 locs hPn hK hS => ?_)
  have hFr : ∀ q : Nat, q < s.heap.size → K0[q]? = s.heap[q]? := fun q hq => (hK q (Nat.lt_of_lt_of_le hq hSz) (Nat.not_le.mpr hq)).trans (hFr q hq)
  have hst0 : stP D cB s.heap.size [105] t0 K0 := hPn
  obtain ⟨u0, -, -, hxt0⟩ := stP.tx (A1 := aN K0.size) hL94 hT.1.1 hX.1 hst0 (by decide) (by decide) (fun q h1 h2 h3 => absurd h2 (Nat.not_lt.mpr h3))
  refine lv_astore_n (lv' := [(0, .ref t0), (1, .int (nI 0))]) hx hb dL_ending_61 rfl hl (by decide) rfl (fun ls hl => ?_)
  refine lv_iinc (v := nI 1) (lv' := [(1, .int (nI 1)), (0, .ref t0)]) hx hb dL_ending_62 hl (k := 1) rfl (by decide +kernel) (by decide) rfl (fun ls hl => ?_)
  refine lv_goto (tgt := 5) hx hb dL_ending_65 (by decide) ?_
  refine lv_iload_n hx hb dL_ending_5 rfl (lv_at hl 0 rfl) ?_
  refine lv_bipush (v := nI 8) hx hb dL_ending_6 (by decide) ?_
  refine nv_icmp_ge (tgt := 68) hx hb dL_ending_8 (by decide) (by omega) (by omega) (fun c => absurd c (by decide)) (fun _ => ?_)
  refine va_forget (fun q hq => hS.2.2 q hq) ?_
  have hn9 : s.heap.size ≤ K0.size := hS.1
  refine va_new (D := D) (ci := 9) (C := RJ4) (T := TJ4) (N := 4) (fs := [.null, .int (nI 0), .int (nI 0), .int (nI 0)]) (A := aN K0.size) (H0 := K0) (ws := []) hx hb hts inj4 tyJ4 tyJ4_ok hown (hts (.classLink RL 91 RJ4) (by decide +kernel)) (hts (.instantiable RJ4 4) (by decide +kernel)) (hts (.initialized RJ4) (by decide +kernel)) hX.1.1 (fun k q h => by simp at h) ⟨fun i j p q h => by simp at h, fun k q h => by simp at h⟩ va_S.rf (fun _ h => h) rfl (fun j hj => by rcases (show j = 0 ∨ j = 1 ∨ j = 2 ∨ j = 3 by omega) with rfl | rfl | rfl | rfl <;> rfl) (Nat.le_of_ble_eq_true rfl) (Nat.le_of_ble_eq_true rfl) dL_ending_11 (fun a1 H hP9 hD9 hS9 => ?_)
  have hPn : va_P D vwCl [(a1, .inr (9, [.null, .int (nI 0), .int (nI 0), .int (nI 0)]))] H := hP9
  have ha9 : K0.size ≤ a1 := hD9.2 0 _ rfl
  have hFr : ∀ q : Nat, q < K0.size → H[q]? = K0[q]? := fun q hq => hS9.2.1 q hq (Nat.not_le.mpr hq)
  have hSz : K0.size ≤ H.size := Nat.le_trans ha9 (Nat.le_of_lt (vx_lt hPn (k := 0) rfl))
  have hS : va_S (aN s.heap.size) s.heap H [] := hS.none.trans hS9 (aN_sub hn9)
  refine lv_dup hx hb dL_ending_14 rfl ?_
  refine nv_kGv (va_runI (As := []) (rest := [.ref a1]) ⟨hx, hb, hml, hown, hts⟩ (c_B_init l (n0 := K0.size) ha9) ⟨callB_of 0 hts gL_ending_J4_init_da8c8 rfl rfl rfl (hts (.initialized RJ4) (by decide +kernel)) (hts (.methodLink RL 93 yJ4_init_da8c8) (by decide +kernel)) (by decide +kernel) ⟨Nat.le_of_ble_eq_true rfl, Nat.le_of_ble_eq_true rfl⟩, rfl, (hts (.instanceMethod yJ4_init_da8c8) (by decide +kernel))⟩ (nx_pS hT hX.1 tx0 hS (aN_sub hn9) hPn) rfl rfl hl.1 rfl (lv_room (Nat.le_of_ble_eq_true rfl)) dL_ending_15 ⟨Nat.le_of_ble_eq_true rfl, Nat.le_of_ble_eq_true rfl⟩) hS (aN_sub hn9) (fun H locs hPn hK hS => ?_)
  have hFr : ∀ q : Nat, q < K0.size → H[q]? = K0[q]? := fun q hq => (hK q (Nat.lt_of_lt_of_le hq hSz) (Nat.not_le.mpr hq)).trans (hFr q hq)
  have hSz : K0.size ≤ H.size := hPn.lt
  refine lv_aload_n hx hb dL_ending_18 rfl (lv_at hl 1 rfl) ?_
  refine nv_kGr2 (va_runV (As := [.ref t0]) (rest := []) ⟨hx, hb, hml, hown, hts⟩ (c_B_appS l (n0 := K0.size) (r := t0) (v := u0) (L := [105]) (L0 := []) (by decide)) (cwV 1 hts gL_ending_J4_append_15ec4 rfl rfl rfl (by decide +kernel) ⟨Nat.le_of_ble_eq_true rfl, Nat.le_of_ble_eq_true rfl⟩) (nx_pV hT hX.1 (tx1 (hxt0.kept (fun q h1 _ => hFr q h1))) hS (aN_sub hn9) hPn (sbP.recv hX.1 hPn)) rfl rfl hl.1 rfl (lv_room (Nat.le_of_ble_eq_true rfl)) dL_ending_19 ⟨Nat.le_of_ble_eq_true rfl, Nat.le_of_ble_eq_true rfl⟩) hS (aN_sub hn9) (fun H locs hPn hK hS => ?_)
  have hPn : sbP D cB K0.size a1 [105] H := hPn
  have hFr : ∀ q : Nat, q < K0.size → H[q]? = K0[q]? := fun q hq => (hK q (Nat.lt_of_lt_of_le hq hSz) (Nat.not_le.mpr hq)).trans (hFr q hq)
  have hSz : K0.size ≤ H.size := hPn.lt
  refine lv_iload_n hx hb dL_ending_22 rfl (lv_at hl 0 rfl) ?_
  refine lv_iconst (v := nI 4) hx hb dL_ending_23 (by decide) ?_
  refine nv_icmp_ne (tgt := 32) hx hb dL_ending_24 (by decide) (by omega) (by omega) (fun _ => ?_) (fun c => absurd c (by decide))
  obtain ⟨r94, v94, hZ94, hL94⟩ := hX.2.2 (94, "", []) (by decide)
  refine va_ldcS hx hb hown hZ94 dL_ending_32 ?_
  refine nv_kGr2 (va_runV (As := [.ref r94]) (rest := []) ⟨hx, hb, hml, hown, hts⟩ (c_B_appS l (n0 := K0.size) (r := r94) (v := v94) (L := []) (L0 := [105]) (by decide)) (cwV 1 hts gL_ending_J4_append_15ec4 rfl rfl rfl (by decide +kernel) ⟨Nat.le_of_ble_eq_true rfl, Nat.le_of_ble_eq_true rfl⟩) (nx_pV hT hX.1 (tx1 (hL94.go hS (aN_sub hn9))) hS (aN_sub hn9) hPn (sbP.recv hX.1 hPn)) rfl rfl hl.1 rfl (lv_room (Nat.le_of_ble_eq_true rfl)) dL_ending_34 ⟨Nat.le_of_ble_eq_true rfl, Nat.le_of_ble_eq_true rfl⟩) hS (aN_sub hn9) (fun H locs hPn hK hS => ?_)
  have hPn : sbP D cB K0.size a1 [105] H := hPn
  have hFr : ∀ q : Nat, q < K0.size → H[q]? = K0[q]? := fun q hq => (hK q (Nat.lt_of_lt_of_le hq hSz) (Nat.not_le.mpr hq)).trans (hFr q hq)
  have hSz : K0.size ≤ H.size := hPn.lt
  obtain ⟨r248, v248, hZ248, hL248⟩ := hX.2.2 (248, "aeiou", [97, 101, 105, 111, 117]) (by decide)
  refine va_ldcS hx hb hown hZ248 dL_ending_37 ?_
  refine lv_iconst (v := nI 2) hx hb dL_ending_39 (by decide) ?_
  refine lv_iconst (v := nI 2) hx hb dL_ending_40 (by decide) ?_
  refine lv_iload_n hx hb dL_ending_41 rfl (lv_at hl 0 rfl) ?_
  refine lv_iconst (v := nI 4) hx hb dL_ending_42 (by decide) ?_
  refine lv_irem hx hb dL_ending_43 (by decide) ?_
  refine nv_to 1 (by decide +kernel) ?_
  refine nv_imul hx hb dL_ending_44 ?_
  refine nv_iadd hx hb dL_ending_45 ?_
  refine lv_iload_n hx hb dL_ending_46 rfl (lv_at hl 0 rfl) ?_
  refine lv_iconst (v := nI 4) hx hb dL_ending_47 (by decide) ?_
  refine lv_idiv hx hb dL_ending_48 (by decide) ?_
  refine nv_to 0 (by decide +kernel) ?_
  refine nv_iadd hx hb dL_ending_49 ?_
  refine lv_iconst (v := nI 5) hx hb dL_ending_50 (by decide) ?_
  refine lv_irem hx hb dL_ending_51 (by decide) ?_
  refine nv_to 4 (by decide +kernel) ?_
  refine nv_kS (va_runV (As := [.int (nI 4)]) (rest := [.ref a1]) ⟨hx, hb, hml, hown, hts⟩ (c_T_charAt l (A := aN s.heap.size) 4 (by decide)) (cwV 1 hts gL_ending_J0_charAt_5068e rfl rfl rfl (by decide +kernel) ⟨Nat.le_of_ble_eq_true rfl, Nat.le_of_ble_eq_true rfl⟩) (nx_pV hT hX.1 (tx1 (hL248.go hS (fun _ h => h))) hS (fun _ h => h) trivial (va_Orecv hL248.2.2.1 hS)) rfl rfl hl.1 rfl (lv_room (Nat.le_of_ble_eq_true rfl)) dL_ending_52 ⟨Nat.le_of_ble_eq_true rfl, Nat.le_of_ble_eq_true rfl⟩) ?_
  refine nv_to 117 rfl ?_
  refine nv_kGr2 (va_runV (As := [.int (nI 117)]) (rest := []) ⟨hx, hb, hml, hown, hts⟩ (c_B_appC l (n0 := K0.size) (L0 := [105]) 117 (by decide) (by show _ ≤ 60; decide)) (cwV 1 hts gL_ending_J4_append_cf468 rfl rfl rfl (by decide +kernel) ⟨Nat.le_of_ble_eq_true rfl, Nat.le_of_ble_eq_true rfl⟩) (nx_pV hT hX.1 tx0 hS (aN_sub hn9) hPn (sbP.recv hX.1 hPn)) rfl rfl hl.1 rfl (lv_room (Nat.le_of_ble_eq_true rfl)) dL_ending_55 ⟨Nat.le_of_ble_eq_true rfl, Nat.le_of_ble_eq_true rfl⟩) hS (aN_sub hn9) (fun H locs hPn hK hS => ?_)
  have hPn : sbP D cB K0.size a1 [105, 117] H := hPn
  have hFr : ∀ q : Nat, q < K0.size → H[q]? = K0[q]? := fun q hq => (hK q (Nat.lt_of_lt_of_le hq hSz) (Nat.not_le.mpr hq)).trans (hFr q hq)
  have hSz : K0.size ≤ H.size := hPn.lt
  refine nv_kGn (va_runV (As := []) (rest := []) ⟨hx, hb, hml, hown, hts⟩ (c_B_toString l (n0 := K0.size) (L0 := [105, 117]) (by decide)) (cwV 0 hts gL_ending_J4_toString_0e30d rfl rfl rfl (by decide +kernel) ⟨Nat.le_of_ble_eq_true rfl, Nat.le_of_ble_eq_true rfl⟩) (nx_pV hT hX.1 tx0 hS (aN_sub hn9) hPn (sbP.recv hX.1 hPn)) rfl rfl hl.1 rfl (lv_room (Nat.le_of_ble_eq_true rfl)) dL_ending_58 ⟨Nat.le_of_ble_eq_true rfl, Nat.le_of_ble_eq_true rfl⟩) hS (aN_sub hn9) (fun t1 K1 locs hPn hK hS => ?_)
  have hFr : ∀ q : Nat, q < K0.size → K1[q]? = K0[q]? := fun q hq => (hK q (Nat.lt_of_lt_of_le hq hSz) (Nat.not_le.mpr hq)).trans (hFr q hq)
  have hst1 : stP D cB K0.size [105, 117] t1 K1 := hPn
  obtain ⟨u1, -, -, hxt1⟩ := stP.tx (A1 := aN K1.size) hL94 hT.1.1 hX.1 hst1 (by decide) (by decide) (fun q h1 h2 h3 => absurd h2 (Nat.not_lt.mpr h3))
  refine lv_astore_n (lv' := [(0, .ref t1), (1, .int (nI 1))]) hx hb dL_ending_61 rfl hl (by decide) rfl (fun ls hl => ?_)
  refine lv_iinc (v := nI 2) (lv' := [(1, .int (nI 2)), (0, .ref t1)]) hx hb dL_ending_62 hl (k := 1) rfl (by decide +kernel) (by decide) rfl (fun ls hl => ?_)
  refine lv_goto (tgt := 5) hx hb dL_ending_65 (by decide) ?_
  refine lv_iload_n hx hb dL_ending_5 rfl (lv_at hl 0 rfl) ?_
  refine lv_bipush (v := nI 8) hx hb dL_ending_6 (by decide) ?_
  refine nv_icmp_ge (tgt := 68) hx hb dL_ending_8 (by decide) (by omega) (by omega) (fun c => absurd c (by decide)) (fun _ => ?_)
  refine va_forget (fun q hq => hS.2.2 q hq) ?_
  have hn9 : s.heap.size ≤ K1.size := hS.1
  refine va_new (D := D) (ci := 9) (C := RJ4) (T := TJ4) (N := 4) (fs := [.null, .int (nI 0), .int (nI 0), .int (nI 0)]) (A := aN K1.size) (H0 := K1) (ws := []) hx hb hts inj4 tyJ4 tyJ4_ok hown (hts (.classLink RL 91 RJ4) (by decide +kernel)) (hts (.instantiable RJ4 4) (by decide +kernel)) (hts (.initialized RJ4) (by decide +kernel)) hX.1.1 (fun k q h => by simp at h) ⟨fun i j p q h => by simp at h, fun k q h => by simp at h⟩ va_S.rf (fun _ h => h) rfl (fun j hj => by rcases (show j = 0 ∨ j = 1 ∨ j = 2 ∨ j = 3 by omega) with rfl | rfl | rfl | rfl <;> rfl) (Nat.le_of_ble_eq_true rfl) (Nat.le_of_ble_eq_true rfl) dL_ending_11 (fun a2 H hP9 hD9 hS9 => ?_)
  have hPn : va_P D vwCl [(a2, .inr (9, [.null, .int (nI 0), .int (nI 0), .int (nI 0)]))] H := hP9
  have ha9 : K1.size ≤ a2 := hD9.2 0 _ rfl
  have hFr : ∀ q : Nat, q < K1.size → H[q]? = K1[q]? := fun q hq => hS9.2.1 q hq (Nat.not_le.mpr hq)
  have hSz : K1.size ≤ H.size := Nat.le_trans ha9 (Nat.le_of_lt (vx_lt hPn (k := 0) rfl))
  have hS : va_S (aN s.heap.size) s.heap H [] := hS.none.trans hS9 (aN_sub hn9)
  refine lv_dup hx hb dL_ending_14 rfl ?_
  refine nv_kGv (va_runI (As := []) (rest := [.ref a2]) ⟨hx, hb, hml, hown, hts⟩ (c_B_init l (n0 := K1.size) ha9) ⟨callB_of 0 hts gL_ending_J4_init_da8c8 rfl rfl rfl (hts (.initialized RJ4) (by decide +kernel)) (hts (.methodLink RL 93 yJ4_init_da8c8) (by decide +kernel)) (by decide +kernel) ⟨Nat.le_of_ble_eq_true rfl, Nat.le_of_ble_eq_true rfl⟩, rfl, (hts (.instanceMethod yJ4_init_da8c8) (by decide +kernel))⟩ (nx_pS hT hX.1 tx0 hS (aN_sub hn9) hPn) rfl rfl hl.1 rfl (lv_room (Nat.le_of_ble_eq_true rfl)) dL_ending_15 ⟨Nat.le_of_ble_eq_true rfl, Nat.le_of_ble_eq_true rfl⟩) hS (aN_sub hn9) (fun H locs hPn hK hS => ?_)
  have hFr : ∀ q : Nat, q < K1.size → H[q]? = K1[q]? := fun q hq => (hK q (Nat.lt_of_lt_of_le hq hSz) (Nat.not_le.mpr hq)).trans (hFr q hq)
  have hSz : K1.size ≤ H.size := hPn.lt
  refine lv_aload_n hx hb dL_ending_18 rfl (lv_at hl 1 rfl) ?_
  refine nv_kGr2 (va_runV (As := [.ref t1]) (rest := []) ⟨hx, hb, hml, hown, hts⟩ (c_B_appS l (n0 := K1.size) (r := t1) (v := u1) (L := [105, 117]) (L0 := []) (by decide)) (cwV 1 hts gL_ending_J4_append_15ec4 rfl rfl rfl (by decide +kernel) ⟨Nat.le_of_ble_eq_true rfl, Nat.le_of_ble_eq_true rfl⟩) (nx_pV hT hX.1 (tx1 (hxt1.kept (fun q h1 _ => hFr q h1))) hS (aN_sub hn9) hPn (sbP.recv hX.1 hPn)) rfl rfl hl.1 rfl (lv_room (Nat.le_of_ble_eq_true rfl)) dL_ending_19 ⟨Nat.le_of_ble_eq_true rfl, Nat.le_of_ble_eq_true rfl⟩) hS (aN_sub hn9) (fun H locs hPn hK hS => ?_)
  have hPn : sbP D cB K1.size a2 [105, 117] H := hPn
  have hFr : ∀ q : Nat, q < K1.size → H[q]? = K1[q]? := fun q hq => (hK q (Nat.lt_of_lt_of_le hq hSz) (Nat.not_le.mpr hq)).trans (hFr q hq)
  have hSz : K1.size ≤ H.size := hPn.lt
  refine lv_iload_n hx hb dL_ending_22 rfl (lv_at hl 0 rfl) ?_
  refine lv_iconst (v := nI 4) hx hb dL_ending_23 (by decide) ?_
  refine nv_icmp_ne (tgt := 32) hx hb dL_ending_24 (by decide) (by omega) (by omega) (fun _ => ?_) (fun c => absurd c (by decide))
  obtain ⟨r94, v94, hZ94, hL94⟩ := hX.2.2 (94, "", []) (by decide)
  refine va_ldcS hx hb hown hZ94 dL_ending_32 ?_
  refine nv_kGr2 (va_runV (As := [.ref r94]) (rest := []) ⟨hx, hb, hml, hown, hts⟩ (c_B_appS l (n0 := K1.size) (r := r94) (v := v94) (L := []) (L0 := [105, 117]) (by decide)) (cwV 1 hts gL_ending_J4_append_15ec4 rfl rfl rfl (by decide +kernel) ⟨Nat.le_of_ble_eq_true rfl, Nat.le_of_ble_eq_true rfl⟩) (nx_pV hT hX.1 (tx1 (hL94.go hS (aN_sub hn9))) hS (aN_sub hn9) hPn (sbP.recv hX.1 hPn)) rfl rfl hl.1 rfl (lv_room (Nat.le_of_ble_eq_true rfl)) dL_ending_34 ⟨Nat.le_of_ble_eq_true rfl, Nat.le_of_ble_eq_true rfl⟩) hS (aN_sub hn9) (fun H locs hPn hK hS => ?_)
  have hPn : sbP D cB K1.size a2 [105, 117] H := hPn
  have hFr : ∀ q : Nat, q < K1.size → H[q]? = K1[q]? := fun q hq => (hK q (Nat.lt_of_lt_of_le hq hSz) (Nat.not_le.mpr hq)).trans (hFr q hq)
  have hSz : K1.size ≤ H.size := hPn.lt
  obtain ⟨r248, v248, hZ248, hL248⟩ := hX.2.2 (248, "aeiou", [97, 101, 105, 111, 117]) (by decide)
  refine va_ldcS hx hb hown hZ248 dL_ending_37 ?_
  refine lv_iconst (v := nI 2) hx hb dL_ending_39 (by decide) ?_
  refine lv_iconst (v := nI 2) hx hb dL_ending_40 (by decide) ?_
  refine lv_iload_n hx hb dL_ending_41 rfl (lv_at hl 0 rfl) ?_
  refine lv_iconst (v := nI 4) hx hb dL_ending_42 (by decide) ?_
  refine lv_irem hx hb dL_ending_43 (by decide) ?_
  refine nv_to 2 (by decide +kernel) ?_
  refine nv_imul hx hb dL_ending_44 ?_
  refine nv_iadd hx hb dL_ending_45 ?_
  refine lv_iload_n hx hb dL_ending_46 rfl (lv_at hl 0 rfl) ?_
  refine lv_iconst (v := nI 4) hx hb dL_ending_47 (by decide) ?_
  refine lv_idiv hx hb dL_ending_48 (by decide) ?_
  refine nv_to 0 (by decide +kernel) ?_
  refine nv_iadd hx hb dL_ending_49 ?_
  refine lv_iconst (v := nI 5) hx hb dL_ending_50 (by decide) ?_
  refine lv_irem hx hb dL_ending_51 (by decide) ?_
  refine nv_to 1 (by decide +kernel) ?_
  refine nv_kS (va_runV (As := [.int (nI 1)]) (rest := [.ref a2]) ⟨hx, hb, hml, hown, hts⟩ (c_T_charAt l (A := aN s.heap.size) 1 (by decide)) (cwV 1 hts gL_ending_J0_charAt_5068e rfl rfl rfl (by decide +kernel) ⟨Nat.le_of_ble_eq_true rfl, Nat.le_of_ble_eq_true rfl⟩) (nx_pV hT hX.1 (tx1 (hL248.go hS (fun _ h => h))) hS (fun _ h => h) trivial (va_Orecv hL248.2.2.1 hS)) rfl rfl hl.1 rfl (lv_room (Nat.le_of_ble_eq_true rfl)) dL_ending_52 ⟨Nat.le_of_ble_eq_true rfl, Nat.le_of_ble_eq_true rfl⟩) ?_
  refine nv_to 101 rfl ?_
  refine nv_kGr2 (va_runV (As := [.int (nI 101)]) (rest := []) ⟨hx, hb, hml, hown, hts⟩ (c_B_appC l (n0 := K1.size) (L0 := [105, 117]) 101 (by decide) (by show _ ≤ 60; decide)) (cwV 1 hts gL_ending_J4_append_cf468 rfl rfl rfl (by decide +kernel) ⟨Nat.le_of_ble_eq_true rfl, Nat.le_of_ble_eq_true rfl⟩) (nx_pV hT hX.1 tx0 hS (aN_sub hn9) hPn (sbP.recv hX.1 hPn)) rfl rfl hl.1 rfl (lv_room (Nat.le_of_ble_eq_true rfl)) dL_ending_55 ⟨Nat.le_of_ble_eq_true rfl, Nat.le_of_ble_eq_true rfl⟩) hS (aN_sub hn9) (fun H locs hPn hK hS => ?_)
  have hPn : sbP D cB K1.size a2 [105, 117, 101] H := hPn
  have hFr : ∀ q : Nat, q < K1.size → H[q]? = K1[q]? := fun q hq => (hK q (Nat.lt_of_lt_of_le hq hSz) (Nat.not_le.mpr hq)).trans (hFr q hq)
  have hSz : K1.size ≤ H.size := hPn.lt
  refine nv_kGn (va_runV (As := []) (rest := []) ⟨hx, hb, hml, hown, hts⟩ (c_B_toString l (n0 := K1.size) (L0 := [105, 117, 101]) (by decide)) (cwV 0 hts gL_ending_J4_toString_0e30d rfl rfl rfl (by decide +kernel) ⟨Nat.le_of_ble_eq_true rfl, Nat.le_of_ble_eq_true rfl⟩) (nx_pV hT hX.1 tx0 hS (aN_sub hn9) hPn (sbP.recv hX.1 hPn)) rfl rfl hl.1 rfl (lv_room (Nat.le_of_ble_eq_true rfl)) dL_ending_58 ⟨Nat.le_of_ble_eq_true rfl, Nat.le_of_ble_eq_true rfl⟩) hS (aN_sub hn9) (fun t2 K2 locs hPn hK hS => ?_)
  have hFr : ∀ q : Nat, q < K1.size → K2[q]? = K1[q]? := fun q hq => (hK q (Nat.lt_of_lt_of_le hq hSz) (Nat.not_le.mpr hq)).trans (hFr q hq)
  have hst2 : stP D cB K1.size [105, 117, 101] t2 K2 := hPn
  obtain ⟨u2, -, -, hxt2⟩ := stP.tx (A1 := aN K2.size) hL94 hT.1.1 hX.1 hst2 (by decide) (by decide) (fun q h1 h2 h3 => absurd h2 (Nat.not_lt.mpr h3))
  refine lv_astore_n (lv' := [(0, .ref t2), (1, .int (nI 2))]) hx hb dL_ending_61 rfl hl (by decide) rfl (fun ls hl => ?_)
  refine lv_iinc (v := nI 3) (lv' := [(1, .int (nI 3)), (0, .ref t2)]) hx hb dL_ending_62 hl (k := 1) rfl (by decide +kernel) (by decide) rfl (fun ls hl => ?_)
  refine lv_goto (tgt := 5) hx hb dL_ending_65 (by decide) ?_
  refine lv_iload_n hx hb dL_ending_5 rfl (lv_at hl 0 rfl) ?_
  refine lv_bipush (v := nI 8) hx hb dL_ending_6 (by decide) ?_
  refine nv_icmp_ge (tgt := 68) hx hb dL_ending_8 (by decide) (by omega) (by omega) (fun c => absurd c (by decide)) (fun _ => ?_)
  refine va_forget (fun q hq => hS.2.2 q hq) ?_
  have hn9 : s.heap.size ≤ K2.size := hS.1
  refine va_new (D := D) (ci := 9) (C := RJ4) (T := TJ4) (N := 4) (fs := [.null, .int (nI 0), .int (nI 0), .int (nI 0)]) (A := aN K2.size) (H0 := K2) (ws := []) hx hb hts inj4 tyJ4 tyJ4_ok hown (hts (.classLink RL 91 RJ4) (by decide +kernel)) (hts (.instantiable RJ4 4) (by decide +kernel)) (hts (.initialized RJ4) (by decide +kernel)) hX.1.1 (fun k q h => by simp at h) ⟨fun i j p q h => by simp at h, fun k q h => by simp at h⟩ va_S.rf (fun _ h => h) rfl (fun j hj => by rcases (show j = 0 ∨ j = 1 ∨ j = 2 ∨ j = 3 by omega) with rfl | rfl | rfl | rfl <;> rfl) (Nat.le_of_ble_eq_true rfl) (Nat.le_of_ble_eq_true rfl) dL_ending_11 (fun a3 H hP9 hD9 hS9 => ?_)
  have hPn : va_P D vwCl [(a3, .inr (9, [.null, .int (nI 0), .int (nI 0), .int (nI 0)]))] H := hP9
  have ha9 : K2.size ≤ a3 := hD9.2 0 _ rfl
  have hFr : ∀ q : Nat, q < K2.size → H[q]? = K2[q]? := fun q hq => hS9.2.1 q hq (Nat.not_le.mpr hq)
  have hSz : K2.size ≤ H.size := Nat.le_trans ha9 (Nat.le_of_lt (vx_lt hPn (k := 0) rfl))
  have hS : va_S (aN s.heap.size) s.heap H [] := hS.none.trans hS9 (aN_sub hn9)
  refine lv_dup hx hb dL_ending_14 rfl ?_
  refine nv_kGv (va_runI (As := []) (rest := [.ref a3]) ⟨hx, hb, hml, hown, hts⟩ (c_B_init l (n0 := K2.size) ha9) ⟨callB_of 0 hts gL_ending_J4_init_da8c8 rfl rfl rfl (hts (.initialized RJ4) (by decide +kernel)) (hts (.methodLink RL 93 yJ4_init_da8c8) (by decide +kernel)) (by decide +kernel) ⟨Nat.le_of_ble_eq_true rfl, Nat.le_of_ble_eq_true rfl⟩, rfl, (hts (.instanceMethod yJ4_init_da8c8) (by decide +kernel))⟩ (nx_pS hT hX.1 tx0 hS (aN_sub hn9) hPn) rfl rfl hl.1 rfl (lv_room (Nat.le_of_ble_eq_true rfl)) dL_ending_15 ⟨Nat.le_of_ble_eq_true rfl, Nat.le_of_ble_eq_true rfl⟩) hS (aN_sub hn9) (fun H locs hPn hK hS => ?_)
  have hFr : ∀ q : Nat, q < K2.size → H[q]? = K2[q]? := fun q hq => (hK q (Nat.lt_of_lt_of_le hq hSz) (Nat.not_le.mpr hq)).trans (hFr q hq)
  have hSz : K2.size ≤ H.size := hPn.lt
  refine lv_aload_n hx hb dL_ending_18 rfl (lv_at hl 1 rfl) ?_
  refine nv_kGr2 (va_runV (As := [.ref t2]) (rest := []) ⟨hx, hb, hml, hown, hts⟩ (c_B_appS l (n0 := K2.size) (r := t2) (v := u2) (L := [105, 117, 101]) (L0 := []) (by decide)) (cwV 1 hts gL_ending_J4_append_15ec4 rfl rfl rfl (by decide +kernel) ⟨Nat.le_of_ble_eq_true rfl, Nat.le_of_ble_eq_true rfl⟩) (nx_pV hT hX.1 (tx1 (hxt2.kept (fun q h1 _ => hFr q h1))) hS (aN_sub hn9) hPn (sbP.recv hX.1 hPn)) rfl rfl hl.1 rfl (lv_room (Nat.le_of_ble_eq_true rfl)) dL_ending_19 ⟨Nat.le_of_ble_eq_true rfl, Nat.le_of_ble_eq_true rfl⟩) hS (aN_sub hn9) (fun H locs hPn hK hS => ?_)
  have hPn : sbP D cB K2.size a3 [105, 117, 101] H := hPn
  have hFr : ∀ q : Nat, q < K2.size → H[q]? = K2[q]? := fun q hq => (hK q (Nat.lt_of_lt_of_le hq hSz) (Nat.not_le.mpr hq)).trans (hFr q hq)
  have hSz : K2.size ≤ H.size := hPn.lt
  refine lv_iload_n hx hb dL_ending_22 rfl (lv_at hl 0 rfl) ?_
  refine lv_iconst (v := nI 4) hx hb dL_ending_23 (by decide) ?_
  refine nv_icmp_ne (tgt := 32) hx hb dL_ending_24 (by decide) (by omega) (by omega) (fun _ => ?_) (fun c => absurd c (by decide))
  obtain ⟨r94, v94, hZ94, hL94⟩ := hX.2.2 (94, "", []) (by decide)
  refine va_ldcS hx hb hown hZ94 dL_ending_32 ?_
  refine nv_kGr2 (va_runV (As := [.ref r94]) (rest := []) ⟨hx, hb, hml, hown, hts⟩ (c_B_appS l (n0 := K2.size) (r := r94) (v := v94) (L := []) (L0 := [105, 117, 101]) (by decide)) (cwV 1 hts gL_ending_J4_append_15ec4 rfl rfl rfl (by decide +kernel) ⟨Nat.le_of_ble_eq_true rfl, Nat.le_of_ble_eq_true rfl⟩) (nx_pV hT hX.1 (tx1 (hL94.go hS (aN_sub hn9))) hS (aN_sub hn9) hPn (sbP.recv hX.1 hPn)) rfl rfl hl.1 rfl (lv_room (Nat.le_of_ble_eq_true rfl)) dL_ending_34 ⟨Nat.le_of_ble_eq_true rfl, Nat.le_of_ble_eq_true rfl⟩) hS (aN_sub hn9) (fun H locs hPn hK hS => ?_)
  have hPn : sbP D cB K2.size a3 [105, 117, 101] H := hPn
  have hFr : ∀ q : Nat, q < K2.size → H[q]? = K2[q]? := fun q hq => (hK q (Nat.lt_of_lt_of_le hq hSz) (Nat.not_le.mpr hq)).trans (hFr q hq)
  have hSz : K2.size ≤ H.size := hPn.lt
  obtain ⟨r248, v248, hZ248, hL248⟩ := hX.2.2 (248, "aeiou", [97, 101, 105, 111, 117]) (by decide)
  refine va_ldcS hx hb hown hZ248 dL_ending_37 ?_
  refine lv_iconst (v := nI 2) hx hb dL_ending_39 (by decide) ?_
  refine lv_iconst (v := nI 2) hx hb dL_ending_40 (by decide) ?_
  refine lv_iload_n hx hb dL_ending_41 rfl (lv_at hl 0 rfl) ?_
  refine lv_iconst (v := nI 4) hx hb dL_ending_42 (by decide) ?_
  refine lv_irem hx hb dL_ending_43 (by decide) ?_
  refine nv_to 3 (by decide +kernel) ?_
  refine nv_imul hx hb dL_ending_44 ?_
  refine nv_iadd hx hb dL_ending_45 ?_
  refine lv_iload_n hx hb dL_ending_46 rfl (lv_at hl 0 rfl) ?_
  refine lv_iconst (v := nI 4) hx hb dL_ending_47 (by decide) ?_
  refine lv_idiv hx hb dL_ending_48 (by decide) ?_
  refine nv_to 0 (by decide +kernel) ?_
  refine nv_iadd hx hb dL_ending_49 ?_
  refine lv_iconst (v := nI 5) hx hb dL_ending_50 (by decide) ?_
  refine lv_irem hx hb dL_ending_51 (by decide) ?_
  refine nv_to 3 (by decide +kernel) ?_
  refine nv_kS (va_runV (As := [.int (nI 3)]) (rest := [.ref a3]) ⟨hx, hb, hml, hown, hts⟩ (c_T_charAt l (A := aN s.heap.size) 3 (by decide)) (cwV 1 hts gL_ending_J0_charAt_5068e rfl rfl rfl (by decide +kernel) ⟨Nat.le_of_ble_eq_true rfl, Nat.le_of_ble_eq_true rfl⟩) (nx_pV hT hX.1 (tx1 (hL248.go hS (fun _ h => h))) hS (fun _ h => h) trivial (va_Orecv hL248.2.2.1 hS)) rfl rfl hl.1 rfl (lv_room (Nat.le_of_ble_eq_true rfl)) dL_ending_52 ⟨Nat.le_of_ble_eq_true rfl, Nat.le_of_ble_eq_true rfl⟩) ?_
  refine nv_to 111 rfl ?_
  refine nv_kGr2 (va_runV (As := [.int (nI 111)]) (rest := []) ⟨hx, hb, hml, hown, hts⟩ (c_B_appC l (n0 := K2.size) (L0 := [105, 117, 101]) 111 (by decide) (by show _ ≤ 60; decide)) (cwV 1 hts gL_ending_J4_append_cf468 rfl rfl rfl (by decide +kernel) ⟨Nat.le_of_ble_eq_true rfl, Nat.le_of_ble_eq_true rfl⟩) (nx_pV hT hX.1 tx0 hS (aN_sub hn9) hPn (sbP.recv hX.1 hPn)) rfl rfl hl.1 rfl (lv_room (Nat.le_of_ble_eq_true rfl)) dL_ending_55 ⟨Nat.le_of_ble_eq_true rfl, Nat.le_of_ble_eq_true rfl⟩) hS (aN_sub hn9) (fun H locs hPn hK hS => ?_)
  have hPn : sbP D cB K2.size a3 [105, 117, 101, 111] H := hPn
  have hFr : ∀ q : Nat, q < K2.size → H[q]? = K2[q]? := fun q hq => (hK q (Nat.lt_of_lt_of_le hq hSz) (Nat.not_le.mpr hq)).trans (hFr q hq)
  have hSz : K2.size ≤ H.size := hPn.lt
  refine nv_kGn (va_runV (As := []) (rest := []) ⟨hx, hb, hml, hown, hts⟩ (c_B_toString l (n0 := K2.size) (L0 := [105, 117, 101, 111]) (by decide)) (cwV 0 hts gL_ending_J4_toString_0e30d rfl rfl rfl (by decide +kernel) ⟨Nat.le_of_ble_eq_true rfl, Nat.le_of_ble_eq_true rfl⟩) (nx_pV hT hX.1 tx0 hS (aN_sub hn9) hPn (sbP.recv hX.1 hPn)) rfl rfl hl.1 rfl (lv_room (Nat.le_of_ble_eq_true rfl)) dL_ending_58 ⟨Nat.le_of_ble_eq_true rfl, Nat.le_of_ble_eq_true rfl⟩) hS (aN_sub hn9) (fun t3 K3 locs hPn hK hS => ?_)
  have hFr : ∀ q : Nat, q < K2.size → K3[q]? = K2[q]? := fun q hq => (hK q (Nat.lt_of_lt_of_le hq hSz) (Nat.not_le.mpr hq)).trans (hFr q hq)
  have hst3 : stP D cB K2.size [105, 117, 101, 111] t3 K3 := hPn
  obtain ⟨u3, -, -, hxt3⟩ := stP.tx (A1 := aN K3.size) hL94 hT.1.1 hX.1 hst3 (by decide) (by decide) (fun q h1 h2 h3 => absurd h2 (Nat.not_lt.mpr h3))
  refine lv_astore_n (lv' := [(0, .ref t3), (1, .int (nI 3))]) hx hb dL_ending_61 rfl hl (by decide) rfl (fun ls hl => ?_)
  refine lv_iinc (v := nI 4) (lv' := [(1, .int (nI 4)), (0, .ref t3)]) hx hb dL_ending_62 hl (k := 1) rfl (by decide +kernel) (by decide) rfl (fun ls hl => ?_)
  refine lv_goto (tgt := 5) hx hb dL_ending_65 (by decide) ?_
  refine lv_iload_n hx hb dL_ending_5 rfl (lv_at hl 0 rfl) ?_
  refine lv_bipush (v := nI 8) hx hb dL_ending_6 (by decide) ?_
  refine nv_icmp_ge (tgt := 68) hx hb dL_ending_8 (by decide) (by omega) (by omega) (fun c => absurd c (by decide)) (fun _ => ?_)
  refine va_forget (fun q hq => hS.2.2 q hq) ?_
  have hn9 : s.heap.size ≤ K3.size := hS.1
  refine va_new (D := D) (ci := 9) (C := RJ4) (T := TJ4) (N := 4) (fs := [.null, .int (nI 0), .int (nI 0), .int (nI 0)]) (A := aN K3.size) (H0 := K3) (ws := []) hx hb hts inj4 tyJ4 tyJ4_ok hown (hts (.classLink RL 91 RJ4) (by decide +kernel)) (hts (.instantiable RJ4 4) (by decide +kernel)) (hts (.initialized RJ4) (by decide +kernel)) hX.1.1 (fun k q h => by simp at h) ⟨fun i j p q h => by simp at h, fun k q h => by simp at h⟩ va_S.rf (fun _ h => h) rfl (fun j hj => by rcases (show j = 0 ∨ j = 1 ∨ j = 2 ∨ j = 3 by omega) with rfl | rfl | rfl | rfl <;> rfl) (Nat.le_of_ble_eq_true rfl) (Nat.le_of_ble_eq_true rfl) dL_ending_11 (fun a4 H hP9 hD9 hS9 => ?_)
  have hPn : va_P D vwCl [(a4, .inr (9, [.null, .int (nI 0), .int (nI 0), .int (nI 0)]))] H := hP9
  have ha9 : K3.size ≤ a4 := hD9.2 0 _ rfl
  have hFr : ∀ q : Nat, q < K3.size → H[q]? = K3[q]? := fun q hq => hS9.2.1 q hq (Nat.not_le.mpr hq)
  have hSz : K3.size ≤ H.size := Nat.le_trans ha9 (Nat.le_of_lt (vx_lt hPn (k := 0) rfl))
  have hS : va_S (aN s.heap.size) s.heap H [] := hS.none.trans hS9 (aN_sub hn9)
  refine lv_dup hx hb dL_ending_14 rfl ?_
  refine nv_kGv (va_runI (As := []) (rest := [.ref a4]) ⟨hx, hb, hml, hown, hts⟩ (c_B_init l (n0 := K3.size) ha9) ⟨callB_of 0 hts gL_ending_J4_init_da8c8 rfl rfl rfl (hts (.initialized RJ4) (by decide +kernel)) (hts (.methodLink RL 93 yJ4_init_da8c8) (by decide +kernel)) (by decide +kernel) ⟨Nat.le_of_ble_eq_true rfl, Nat.le_of_ble_eq_true rfl⟩, rfl, (hts (.instanceMethod yJ4_init_da8c8) (by decide +kernel))⟩ (nx_pS hT hX.1 tx0 hS (aN_sub hn9) hPn) rfl rfl hl.1 rfl (lv_room (Nat.le_of_ble_eq_true rfl)) dL_ending_15 ⟨Nat.le_of_ble_eq_true rfl, Nat.le_of_ble_eq_true rfl⟩) hS (aN_sub hn9) (fun H locs hPn hK hS => ?_)
  have hFr : ∀ q : Nat, q < K3.size → H[q]? = K3[q]? := fun q hq => (hK q (Nat.lt_of_lt_of_le hq hSz) (Nat.not_le.mpr hq)).trans (hFr q hq)
  have hSz : K3.size ≤ H.size := hPn.lt
  refine lv_aload_n hx hb dL_ending_18 rfl (lv_at hl 1 rfl) ?_
  refine nv_kGr2 (va_runV (As := [.ref t3]) (rest := []) ⟨hx, hb, hml, hown, hts⟩ (c_B_appS l (n0 := K3.size) (r := t3) (v := u3) (L := [105, 117, 101, 111]) (L0 := []) (by decide)) (cwV 1 hts gL_ending_J4_append_15ec4 rfl rfl rfl (by decide +kernel) ⟨Nat.le_of_ble_eq_true rfl, Nat.le_of_ble_eq_true rfl⟩) (nx_pV hT hX.1 (tx1 (hxt3.kept (fun q h1 _ => hFr q h1))) hS (aN_sub hn9) hPn (sbP.recv hX.1 hPn)) rfl rfl hl.1 rfl (lv_room (Nat.le_of_ble_eq_true rfl)) dL_ending_19 ⟨Nat.le_of_ble_eq_true rfl, Nat.le_of_ble_eq_true rfl⟩) hS (aN_sub hn9) (fun H locs hPn hK hS => ?_)
  have hPn : sbP D cB K3.size a4 [105, 117, 101, 111] H := hPn
  have hFr : ∀ q : Nat, q < K3.size → H[q]? = K3[q]? := fun q hq => (hK q (Nat.lt_of_lt_of_le hq hSz) (Nat.not_le.mpr hq)).trans (hFr q hq)
  have hSz : K3.size ≤ H.size := hPn.lt
  refine lv_iload_n hx hb dL_ending_22 rfl (lv_at hl 0 rfl) ?_
  refine lv_iconst (v := nI 4) hx hb dL_ending_23 (by decide) ?_
  refine nv_icmp_ne (tgt := 32) hx hb dL_ending_24 (by decide) (by omega) (by omega) (fun c => absurd rfl c) (fun _ => ?_)
  obtain ⟨r246, v246, hZ246, hL246⟩ := hX.2.2 (246, "/", [47]) (by decide)
  refine va_ldcS hx hb hown hZ246 dL_ending_27 ?_
  refine lv_goto (tgt := 34) hx hb dL_ending_29 (by decide) ?_
  refine nv_kGr2 (va_runV (As := [.ref r246]) (rest := []) ⟨hx, hb, hml, hown, hts⟩ (c_B_appS l (n0 := K3.size) (r := r246) (v := v246) (L := [47]) (L0 := [105, 117, 101, 111]) (by decide)) (cwV 1 hts gL_ending_J4_append_15ec4 rfl rfl rfl (by decide +kernel) ⟨Nat.le_of_ble_eq_true rfl, Nat.le_of_ble_eq_true rfl⟩) (nx_pV hT hX.1 (tx1 (hL246.go hS (aN_sub hn9))) hS (aN_sub hn9) hPn (sbP.recv hX.1 hPn)) rfl rfl hl.1 rfl (lv_room (Nat.le_of_ble_eq_true rfl)) dL_ending_34 ⟨Nat.le_of_ble_eq_true rfl, Nat.le_of_ble_eq_true rfl⟩) hS (aN_sub hn9) (fun H locs hPn hK hS => ?_)
  have hPn : sbP D cB K3.size a4 [105, 117, 101, 111, 47] H := hPn
  have hFr : ∀ q : Nat, q < K3.size → H[q]? = K3[q]? := fun q hq => (hK q (Nat.lt_of_lt_of_le hq hSz) (Nat.not_le.mpr hq)).trans (hFr q hq)
  have hSz : K3.size ≤ H.size := hPn.lt
  obtain ⟨r248, v248, hZ248, hL248⟩ := hX.2.2 (248, "aeiou", [97, 101, 105, 111, 117]) (by decide)
  refine va_ldcS hx hb hown hZ248 dL_ending_37 ?_
  refine lv_iconst (v := nI 2) hx hb dL_ending_39 (by decide) ?_
  refine lv_iconst (v := nI 2) hx hb dL_ending_40 (by decide) ?_
  refine lv_iload_n hx hb dL_ending_41 rfl (lv_at hl 0 rfl) ?_
  refine lv_iconst (v := nI 4) hx hb dL_ending_42 (by decide) ?_
  refine lv_irem hx hb dL_ending_43 (by decide) ?_
  refine nv_to 0 (by decide +kernel) ?_
  refine nv_imul hx hb dL_ending_44 ?_
  refine nv_iadd hx hb dL_ending_45 ?_
  refine lv_iload_n hx hb dL_ending_46 rfl (lv_at hl 0 rfl) ?_
  refine lv_iconst (v := nI 4) hx hb dL_ending_47 (by decide) ?_
  refine lv_idiv hx hb dL_ending_48 (by decide) ?_
  refine nv_to 1 (by decide +kernel) ?_
  refine nv_iadd hx hb dL_ending_49 ?_
  refine lv_iconst (v := nI 5) hx hb dL_ending_50 (by decide) ?_
  refine lv_irem hx hb dL_ending_51 (by decide) ?_
  refine nv_to 3 (by decide +kernel) ?_
  refine nv_kS (va_runV (As := [.int (nI 3)]) (rest := [.ref a4]) ⟨hx, hb, hml, hown, hts⟩ (c_T_charAt l (A := aN s.heap.size) 3 (by decide)) (cwV 1 hts gL_ending_J0_charAt_5068e rfl rfl rfl (by decide +kernel) ⟨Nat.le_of_ble_eq_true rfl, Nat.le_of_ble_eq_true rfl⟩) (nx_pV hT hX.1 (tx1 (hL248.go hS (fun _ h => h))) hS (fun _ h => h) trivial (va_Orecv hL248.2.2.1 hS)) rfl rfl hl.1 rfl (lv_room (Nat.le_of_ble_eq_true rfl)) dL_ending_52 ⟨Nat.le_of_ble_eq_true rfl, Nat.le_of_ble_eq_true rfl⟩) ?_
  refine nv_to 111 rfl ?_
  refine nv_kGr2 (va_runV (As := [.int (nI 111)]) (rest := []) ⟨hx, hb, hml, hown, hts⟩ (c_B_appC l (n0 := K3.size) (L0 := [105, 117, 101, 111, 47]) 111 (by decide) (by show _ ≤ 60; decide)) (cwV 1 hts gL_ending_J4_append_cf468 rfl rfl rfl (by decide +kernel) ⟨Nat.le_of_ble_eq_true rfl, Nat.le_of_ble_eq_true rfl⟩) (nx_pV hT hX.1 tx0 hS (aN_sub hn9) hPn (sbP.recv hX.1 hPn)) rfl rfl hl.1 rfl (lv_room (Nat.le_of_ble_eq_true rfl)) dL_ending_55 ⟨Nat.le_of_ble_eq_true rfl, Nat.le_of_ble_eq_true rfl⟩) hS (aN_sub hn9) (fun H locs hPn hK hS => ?_)
  have hPn : sbP D cB K3.size a4 [105, 117, 101, 111, 47, 111] H := hPn
  have hFr : ∀ q : Nat, q < K3.size → H[q]? = K3[q]? := fun q hq => (hK q (Nat.lt_of_lt_of_le hq hSz) (Nat.not_le.mpr hq)).trans (hFr q hq)
  have hSz : K3.size ≤ H.size := hPn.lt
  refine nv_kGn (va_runV (As := []) (rest := []) ⟨hx, hb, hml, hown, hts⟩ (c_B_toString l (n0 := K3.size) (L0 := [105, 117, 101, 111, 47, 111]) (by decide)) (cwV 0 hts gL_ending_J4_toString_0e30d rfl rfl rfl (by decide +kernel) ⟨Nat.le_of_ble_eq_true rfl, Nat.le_of_ble_eq_true rfl⟩) (nx_pV hT hX.1 tx0 hS (aN_sub hn9) hPn (sbP.recv hX.1 hPn)) rfl rfl hl.1 rfl (lv_room (Nat.le_of_ble_eq_true rfl)) dL_ending_58 ⟨Nat.le_of_ble_eq_true rfl, Nat.le_of_ble_eq_true rfl⟩) hS (aN_sub hn9) (fun t4 K4 locs hPn hK hS => ?_)
  have hFr : ∀ q : Nat, q < K3.size → K4[q]? = K3[q]? := fun q hq => (hK q (Nat.lt_of_lt_of_le hq hSz) (Nat.not_le.mpr hq)).trans (hFr q hq)
  have hst4 : stP D cB K3.size [105, 117, 101, 111, 47, 111] t4 K4 := hPn
  obtain ⟨u4, -, -, hxt4⟩ := stP.tx (A1 := aN K4.size) hL94 hT.1.1 hX.1 hst4 (by decide) (by decide) (fun q h1 h2 h3 => absurd h2 (Nat.not_lt.mpr h3))
  refine lv_astore_n (lv' := [(0, .ref t4), (1, .int (nI 4))]) hx hb dL_ending_61 rfl hl (by decide) rfl (fun ls hl => ?_)
  refine lv_iinc (v := nI 5) (lv' := [(1, .int (nI 5)), (0, .ref t4)]) hx hb dL_ending_62 hl (k := 1) rfl (by decide +kernel) (by decide) rfl (fun ls hl => ?_)
  refine lv_goto (tgt := 5) hx hb dL_ending_65 (by decide) ?_
  refine lv_iload_n hx hb dL_ending_5 rfl (lv_at hl 0 rfl) ?_
  refine lv_bipush (v := nI 8) hx hb dL_ending_6 (by decide) ?_
  refine nv_icmp_ge (tgt := 68) hx hb dL_ending_8 (by decide) (by omega) (by omega) (fun c => absurd c (by decide)) (fun _ => ?_)
  refine va_forget (fun q hq => hS.2.2 q hq) ?_
  have hn9 : s.heap.size ≤ K4.size := hS.1
  refine va_new (D := D) (ci := 9) (C := RJ4) (T := TJ4) (N := 4) (fs := [.null, .int (nI 0), .int (nI 0), .int (nI 0)]) (A := aN K4.size) (H0 := K4) (ws := []) hx hb hts inj4 tyJ4 tyJ4_ok hown (hts (.classLink RL 91 RJ4) (by decide +kernel)) (hts (.instantiable RJ4 4) (by decide +kernel)) (hts (.initialized RJ4) (by decide +kernel)) hX.1.1 (fun k q h => by simp at h) ⟨fun i j p q h => by simp at h, fun k q h => by simp at h⟩ va_S.rf (fun _ h => h) rfl (fun j hj => by rcases (show j = 0 ∨ j = 1 ∨ j = 2 ∨ j = 3 by omega) with rfl | rfl | rfl | rfl <;> rfl) (Nat.le_of_ble_eq_true rfl) (Nat.le_of_ble_eq_true rfl) dL_ending_11 (fun a5 H hP9 hD9 hS9 => ?_)
  have hPn : va_P D vwCl [(a5, .inr (9, [.null, .int (nI 0), .int (nI 0), .int (nI 0)]))] H := hP9
  have ha9 : K4.size ≤ a5 := hD9.2 0 _ rfl
  have hFr : ∀ q : Nat, q < K4.size → H[q]? = K4[q]? := fun q hq => hS9.2.1 q hq (Nat.not_le.mpr hq)
  have hSz : K4.size ≤ H.size := Nat.le_trans ha9 (Nat.le_of_lt (vx_lt hPn (k := 0) rfl))
  have hS : va_S (aN s.heap.size) s.heap H [] := hS.none.trans hS9 (aN_sub hn9)
  refine lv_dup hx hb dL_ending_14 rfl ?_
  refine nv_kGv (va_runI (As := []) (rest := [.ref a5]) ⟨hx, hb, hml, hown, hts⟩ (c_B_init l (n0 := K4.size) ha9) ⟨callB_of 0 hts gL_ending_J4_init_da8c8 rfl rfl rfl (hts (.initialized RJ4) (by decide +kernel)) (hts (.methodLink RL 93 yJ4_init_da8c8) (by decide +kernel)) (by decide +kernel) ⟨Nat.le_of_ble_eq_true rfl, Nat.le_of_ble_eq_true rfl⟩, rfl, (hts (.instanceMethod yJ4_init_da8c8) (by decide +kernel))⟩ (nx_pS hT hX.1 tx0 hS (aN_sub hn9) hPn) rfl rfl hl.1 rfl (lv_room (Nat.le_of_ble_eq_true rfl)) dL_ending_15 ⟨Nat.le_of_ble_eq_true rfl, Nat.le_of_ble_eq_true rfl⟩) hS (aN_sub hn9) (fun H locs hPn hK hS => ?_)
  have hFr : ∀ q : Nat, q < K4.size → H[q]? = K4[q]? := fun q hq => (hK q (Nat.lt_of_lt_of_le hq hSz) (Nat.not_le.mpr hq)).trans (hFr q hq)
  have hSz : K4.size ≤ H.size := hPn.lt
  refine lv_aload_n hx hb dL_ending_18 rfl (lv_at hl 1 rfl) ?_
  refine nv_kGr2 (va_runV (As := [.ref t4]) (rest := []) ⟨hx, hb, hml, hown, hts⟩ (c_B_appS l (n0 := K4.size) (r := t4) (v := u4) (L := [105, 117, 101, 111, 47, 111]) (L0 := []) (by decide)) (cwV 1 hts gL_ending_J4_append_15ec4 rfl rfl rfl (by decide +kernel) ⟨Nat.le_of_ble_eq_true rfl, Nat.le_of_ble_eq_true rfl⟩) (nx_pV hT hX.1 (tx1 (hxt4.kept (fun q h1 _ => hFr q h1))) hS (aN_sub hn9) hPn (sbP.recv hX.1 hPn)) rfl rfl hl.1 rfl (lv_room (Nat.le_of_ble_eq_true rfl)) dL_ending_19 ⟨Nat.le_of_ble_eq_true rfl, Nat.le_of_ble_eq_true rfl⟩) hS (aN_sub hn9) (fun H locs hPn hK hS => ?_)
  have hPn : sbP D cB K4.size a5 [105, 117, 101, 111, 47, 111] H := hPn
  have hFr : ∀ q : Nat, q < K4.size → H[q]? = K4[q]? := fun q hq => (hK q (Nat.lt_of_lt_of_le hq hSz) (Nat.not_le.mpr hq)).trans (hFr q hq)
  have hSz : K4.size ≤ H.size := hPn.lt
  refine lv_iload_n hx hb dL_ending_22 rfl (lv_at hl 0 rfl) ?_
  refine lv_iconst (v := nI 4) hx hb dL_ending_23 (by decide) ?_
  refine nv_icmp_ne (tgt := 32) hx hb dL_ending_24 (by decide) (by omega) (by omega) (fun _ => ?_) (fun c => absurd c (by decide))
  obtain ⟨r94, v94, hZ94, hL94⟩ := hX.2.2 (94, "", []) (by decide)
  refine va_ldcS hx hb hown hZ94 dL_ending_32 ?_
  refine nv_kGr2 (va_runV (As := [.ref r94]) (rest := []) ⟨hx, hb, hml, hown, hts⟩ (c_B_appS l (n0 := K4.size) (r := r94) (v := v94) (L := []) (L0 := [105, 117, 101, 111, 47, 111]) (by decide)) (cwV 1 hts gL_ending_J4_append_15ec4 rfl rfl rfl (by decide +kernel) ⟨Nat.le_of_ble_eq_true rfl, Nat.le_of_ble_eq_true rfl⟩) (nx_pV hT hX.1 (tx1 (hL94.go hS (aN_sub hn9))) hS (aN_sub hn9) hPn (sbP.recv hX.1 hPn)) rfl rfl hl.1 rfl (lv_room (Nat.le_of_ble_eq_true rfl)) dL_ending_34 ⟨Nat.le_of_ble_eq_true rfl, Nat.le_of_ble_eq_true rfl⟩) hS (aN_sub hn9) (fun H locs hPn hK hS => ?_)
  have hPn : sbP D cB K4.size a5 [105, 117, 101, 111, 47, 111] H := hPn
  have hFr : ∀ q : Nat, q < K4.size → H[q]? = K4[q]? := fun q hq => (hK q (Nat.lt_of_lt_of_le hq hSz) (Nat.not_le.mpr hq)).trans (hFr q hq)
  have hSz : K4.size ≤ H.size := hPn.lt
  obtain ⟨r248, v248, hZ248, hL248⟩ := hX.2.2 (248, "aeiou", [97, 101, 105, 111, 117]) (by decide)
  refine va_ldcS hx hb hown hZ248 dL_ending_37 ?_
  refine lv_iconst (v := nI 2) hx hb dL_ending_39 (by decide) ?_
  refine lv_iconst (v := nI 2) hx hb dL_ending_40 (by decide) ?_
  refine lv_iload_n hx hb dL_ending_41 rfl (lv_at hl 0 rfl) ?_
  refine lv_iconst (v := nI 4) hx hb dL_ending_42 (by decide) ?_
  refine lv_irem hx hb dL_ending_43 (by decide) ?_
  refine nv_to 1 (by decide +kernel) ?_
  refine nv_imul hx hb dL_ending_44 ?_
  refine nv_iadd hx hb dL_ending_45 ?_
  refine lv_iload_n hx hb dL_ending_46 rfl (lv_at hl 0 rfl) ?_
  refine lv_iconst (v := nI 4) hx hb dL_ending_47 (by decide) ?_
  refine lv_idiv hx hb dL_ending_48 (by decide) ?_
  refine nv_to 1 (by decide +kernel) ?_
  refine nv_iadd hx hb dL_ending_49 ?_
  refine lv_iconst (v := nI 5) hx hb dL_ending_50 (by decide) ?_
  refine lv_irem hx hb dL_ending_51 (by decide) ?_
  refine nv_to 0 (by decide +kernel) ?_
  refine nv_kS (va_runV (As := [.int (nI 0)]) (rest := [.ref a5]) ⟨hx, hb, hml, hown, hts⟩ (c_T_charAt l (A := aN s.heap.size) 0 (by decide)) (cwV 1 hts gL_ending_J0_charAt_5068e rfl rfl rfl (by decide +kernel) ⟨Nat.le_of_ble_eq_true rfl, Nat.le_of_ble_eq_true rfl⟩) (nx_pV hT hX.1 (tx1 (hL248.go hS (fun _ h => h))) hS (fun _ h => h) trivial (va_Orecv hL248.2.2.1 hS)) rfl rfl hl.1 rfl (lv_room (Nat.le_of_ble_eq_true rfl)) dL_ending_52 ⟨Nat.le_of_ble_eq_true rfl, Nat.le_of_ble_eq_true rfl⟩) ?_
  refine nv_to 97 rfl ?_
  refine nv_kGr2 (va_runV (As := [.int (nI 97)]) (rest := []) ⟨hx, hb, hml, hown, hts⟩ (c_B_appC l (n0 := K4.size) (L0 := [105, 117, 101, 111, 47, 111]) 97 (by decide) (by show _ ≤ 60; decide)) (cwV 1 hts gL_ending_J4_append_cf468 rfl rfl rfl (by decide +kernel) ⟨Nat.le_of_ble_eq_true rfl, Nat.le_of_ble_eq_true rfl⟩) (nx_pV hT hX.1 tx0 hS (aN_sub hn9) hPn (sbP.recv hX.1 hPn)) rfl rfl hl.1 rfl (lv_room (Nat.le_of_ble_eq_true rfl)) dL_ending_55 ⟨Nat.le_of_ble_eq_true rfl, Nat.le_of_ble_eq_true rfl⟩) hS (aN_sub hn9) (fun H locs hPn hK hS => ?_)
  have hPn : sbP D cB K4.size a5 [105, 117, 101, 111, 47, 111, 97] H := hPn
  have hFr : ∀ q : Nat, q < K4.size → H[q]? = K4[q]? := fun q hq => (hK q (Nat.lt_of_lt_of_le hq hSz) (Nat.not_le.mpr hq)).trans (hFr q hq)
  have hSz : K4.size ≤ H.size := hPn.lt
  refine nv_kGn (va_runV (As := []) (rest := []) ⟨hx, hb, hml, hown, hts⟩ (c_B_toString l (n0 := K4.size) (L0 := [105, 117, 101, 111, 47, 111, 97]) (by decide)) (cwV 0 hts gL_ending_J4_toString_0e30d rfl rfl rfl (by decide +kernel) ⟨Nat.le_of_ble_eq_true rfl, Nat.le_of_ble_eq_true rfl⟩) (nx_pV hT hX.1 tx0 hS (aN_sub hn9) hPn (sbP.recv hX.1 hPn)) rfl rfl hl.1 rfl (lv_room (Nat.le_of_ble_eq_true rfl)) dL_ending_58 ⟨Nat.le_of_ble_eq_true rfl, Nat.le_of_ble_eq_true rfl⟩) hS (aN_sub hn9) (fun t5 K5 locs hPn hK hS => ?_)
  have hFr : ∀ q : Nat, q < K4.size → K5[q]? = K4[q]? := fun q hq => (hK q (Nat.lt_of_lt_of_le hq hSz) (Nat.not_le.mpr hq)).trans (hFr q hq)
  have hst5 : stP D cB K4.size [105, 117, 101, 111, 47, 111, 97] t5 K5 := hPn
  obtain ⟨u5, -, -, hxt5⟩ := stP.tx (A1 := aN K5.size) hL94 hT.1.1 hX.1 hst5 (by decide) (by decide) (fun q h1 h2 h3 => absurd h2 (Nat.not_lt.mpr h3))
  refine lv_astore_n (lv' := [(0, .ref t5), (1, .int (nI 5))]) hx hb dL_ending_61 rfl hl (by decide) rfl (fun ls hl => ?_)
  refine lv_iinc (v := nI 6) (lv' := [(1, .int (nI 6)), (0, .ref t5)]) hx hb dL_ending_62 hl (k := 1) rfl (by decide +kernel) (by decide) rfl (fun ls hl => ?_)
  refine lv_goto (tgt := 5) hx hb dL_ending_65 (by decide) ?_
  refine lv_iload_n hx hb dL_ending_5 rfl (lv_at hl 0 rfl) ?_
  refine lv_bipush (v := nI 8) hx hb dL_ending_6 (by decide) ?_
  refine nv_icmp_ge (tgt := 68) hx hb dL_ending_8 (by decide) (by omega) (by omega) (fun c => absurd c (by decide)) (fun _ => ?_)
  refine va_forget (fun q hq => hS.2.2 q hq) ?_
  have hn9 : s.heap.size ≤ K5.size := hS.1
  refine va_new (D := D) (ci := 9) (C := RJ4) (T := TJ4) (N := 4) (fs := [.null, .int (nI 0), .int (nI 0), .int (nI 0)]) (A := aN K5.size) (H0 := K5) (ws := []) hx hb hts inj4 tyJ4 tyJ4_ok hown (hts (.classLink RL 91 RJ4) (by decide +kernel)) (hts (.instantiable RJ4 4) (by decide +kernel)) (hts (.initialized RJ4) (by decide +kernel)) hX.1.1 (fun k q h => by simp at h) ⟨fun i j p q h => by simp at h, fun k q h => by simp at h⟩ va_S.rf (fun _ h => h) rfl (fun j hj => by rcases (show j = 0 ∨ j = 1 ∨ j = 2 ∨ j = 3 by omega) with rfl | rfl | rfl | rfl <;> rfl) (Nat.le_of_ble_eq_true rfl) (Nat.le_of_ble_eq_true rfl) dL_ending_11 (fun a6 H hP9 hD9 hS9 => ?_)
  have hPn : va_P D vwCl [(a6, .inr (9, [.null, .int (nI 0), .int (nI 0), .int (nI 0)]))] H := hP9
  have ha9 : K5.size ≤ a6 := hD9.2 0 _ rfl
  have hFr : ∀ q : Nat, q < K5.size → H[q]? = K5[q]? := fun q hq => hS9.2.1 q hq (Nat.not_le.mpr hq)
  have hSz : K5.size ≤ H.size := Nat.le_trans ha9 (Nat.le_of_lt (vx_lt hPn (k := 0) rfl))
  have hS : va_S (aN s.heap.size) s.heap H [] := hS.none.trans hS9 (aN_sub hn9)
  refine lv_dup hx hb dL_ending_14 rfl ?_
  refine nv_kGv (va_runI (As := []) (rest := [.ref a6]) ⟨hx, hb, hml, hown, hts⟩ (c_B_init l (n0 := K5.size) ha9) ⟨callB_of 0 hts gL_ending_J4_init_da8c8 rfl rfl rfl (hts (.initialized RJ4) (by decide +kernel)) (hts (.methodLink RL 93 yJ4_init_da8c8) (by decide +kernel)) (by decide +kernel) ⟨Nat.le_of_ble_eq_true rfl, Nat.le_of_ble_eq_true rfl⟩, rfl, (hts (.instanceMethod yJ4_init_da8c8) (by decide +kernel))⟩ (nx_pS hT hX.1 tx0 hS (aN_sub hn9) hPn) rfl rfl hl.1 rfl (lv_room (Nat.le_of_ble_eq_true rfl)) dL_ending_15 ⟨Nat.le_of_ble_eq_true rfl, Nat.le_of_ble_eq_true rfl⟩) hS (aN_sub hn9) (fun H locs hPn hK hS => ?_)
  have hFr : ∀ q : Nat, q < K5.size → H[q]? = K5[q]? := fun q hq => (hK q (Nat.lt_of_lt_of_le hq hSz) (Nat.not_le.mpr hq)).trans (hFr q hq)
  have hSz : K5.size ≤ H.size := hPn.lt
  refine lv_aload_n hx hb dL_ending_18 rfl (lv_at hl 1 rfl) ?_
  refine nv_kGr2 (va_runV (As := [.ref t5]) (rest := []) ⟨hx, hb, hml, hown, hts⟩ (c_B_appS l (n0 := K5.size) (r := t5) (v := u5) (L := [105, 117, 101, 111, 47, 111, 97]) (L0 := []) (by decide)) (cwV 1 hts gL_ending_J4_append_15ec4 rfl rfl rfl (by decide +kernel) ⟨Nat.le_of_ble_eq_true rfl, Nat.le_of_ble_eq_true rfl⟩) (nx_pV hT hX.1 (tx1 (hxt5.kept (fun q h1 _ => hFr q h1))) hS (aN_sub hn9) hPn (sbP.recv hX.1 hPn)) rfl rfl hl.1 rfl (lv_room (Nat.le_of_ble_eq_true rfl)) dL_ending_19 ⟨Nat.le_of_ble_eq_true rfl, Nat.le_of_ble_eq_true rfl⟩) hS (aN_sub hn9) (fun H locs hPn hK hS => ?_)
  have hPn : sbP D cB K5.size a6 [105, 117, 101, 111, 47, 111, 97] H := hPn
  have hFr : ∀ q : Nat, q < K5.size → H[q]? = K5[q]? := fun q hq => (hK q (Nat.lt_of_lt_of_le hq hSz) (Nat.not_le.mpr hq)).trans (hFr q hq)
  have hSz : K5.size ≤ H.size := hPn.lt
  refine lv_iload_n hx hb dL_ending_22 rfl (lv_at hl 0 rfl) ?_
  refine lv_iconst (v := nI 4) hx hb dL_ending_23 (by decide) ?_
  refine nv_icmp_ne (tgt := 32) hx hb dL_ending_24 (by decide) (by omega) (by omega) (fun _ => ?_) (fun c => absurd c (by decide))
  obtain ⟨r94, v94, hZ94, hL94⟩ := hX.2.2 (94, "", []) (by decide)
  refine va_ldcS hx hb hown hZ94 dL_ending_32 ?_
  refine nv_kGr2 (va_runV (As := [.ref r94]) (rest := []) ⟨hx, hb, hml, hown, hts⟩ (c_B_appS l (n0 := K5.size) (r := r94) (v := v94) (L := []) (L0 := [105, 117, 101, 111, 47, 111, 97]) (by decide)) (cwV 1 hts gL_ending_J4_append_15ec4 rfl rfl rfl (by decide +kernel) ⟨Nat.le_of_ble_eq_true rfl, Nat.le_of_ble_eq_true rfl⟩) (nx_pV hT hX.1 (tx1 (hL94.go hS (aN_sub hn9))) hS (aN_sub hn9) hPn (sbP.recv hX.1 hPn)) rfl rfl hl.1 rfl (lv_room (Nat.le_of_ble_eq_true rfl)) dL_ending_34 ⟨Nat.le_of_ble_eq_true rfl, Nat.le_of_ble_eq_true rfl⟩) hS (aN_sub hn9) (fun H locs hPn hK hS => ?_)
  have hPn : sbP D cB K5.size a6 [105, 117, 101, 111, 47, 111, 97] H := hPn
  have hFr : ∀ q : Nat, q < K5.size → H[q]? = K5[q]? := fun q hq => (hK q (Nat.lt_of_lt_of_le hq hSz) (Nat.not_le.mpr hq)).trans (hFr q hq)
  have hSz : K5.size ≤ H.size := hPn.lt
  obtain ⟨r248, v248, hZ248, hL248⟩ := hX.2.2 (248, "aeiou", [97, 101, 105, 111, 117]) (by decide)
  refine va_ldcS hx hb hown hZ248 dL_ending_37 ?_
  refine lv_iconst (v := nI 2) hx hb dL_ending_39 (by decide) ?_
  refine lv_iconst (v := nI 2) hx hb dL_ending_40 (by decide) ?_
  refine lv_iload_n hx hb dL_ending_41 rfl (lv_at hl 0 rfl) ?_
  refine lv_iconst (v := nI 4) hx hb dL_ending_42 (by decide) ?_
  refine lv_irem hx hb dL_ending_43 (by decide) ?_
  refine nv_to 2 (by decide +kernel) ?_
  refine nv_imul hx hb dL_ending_44 ?_
  refine nv_iadd hx hb dL_ending_45 ?_
  refine lv_iload_n hx hb dL_ending_46 rfl (lv_at hl 0 rfl) ?_
  refine lv_iconst (v := nI 4) hx hb dL_ending_47 (by decide) ?_
  refine lv_idiv hx hb dL_ending_48 (by decide) ?_
  refine nv_to 1 (by decide +kernel) ?_
  refine nv_iadd hx hb dL_ending_49 ?_
  refine lv_iconst (v := nI 5) hx hb dL_ending_50 (by decide) ?_
  refine lv_irem hx hb dL_ending_51 (by decide) ?_
  refine nv_to 2 (by decide +kernel) ?_
  refine nv_kS (va_runV (As := [.int (nI 2)]) (rest := [.ref a6]) ⟨hx, hb, hml, hown, hts⟩ (c_T_charAt l (A := aN s.heap.size) 2 (by decide)) (cwV 1 hts gL_ending_J0_charAt_5068e rfl rfl rfl (by decide +kernel) ⟨Nat.le_of_ble_eq_true rfl, Nat.le_of_ble_eq_true rfl⟩) (nx_pV hT hX.1 (tx1 (hL248.go hS (fun _ h => h))) hS (fun _ h => h) trivial (va_Orecv hL248.2.2.1 hS)) rfl rfl hl.1 rfl (lv_room (Nat.le_of_ble_eq_true rfl)) dL_ending_52 ⟨Nat.le_of_ble_eq_true rfl, Nat.le_of_ble_eq_true rfl⟩) ?_
  refine nv_to 105 rfl ?_
  refine nv_kGr2 (va_runV (As := [.int (nI 105)]) (rest := []) ⟨hx, hb, hml, hown, hts⟩ (c_B_appC l (n0 := K5.size) (L0 := [105, 117, 101, 111, 47, 111, 97]) 105 (by decide) (by show _ ≤ 60; decide)) (cwV 1 hts gL_ending_J4_append_cf468 rfl rfl rfl (by decide +kernel) ⟨Nat.le_of_ble_eq_true rfl, Nat.le_of_ble_eq_true rfl⟩) (nx_pV hT hX.1 tx0 hS (aN_sub hn9) hPn (sbP.recv hX.1 hPn)) rfl rfl hl.1 rfl (lv_room (Nat.le_of_ble_eq_true rfl)) dL_ending_55 ⟨Nat.le_of_ble_eq_true rfl, Nat.le_of_ble_eq_true rfl⟩) hS (aN_sub hn9) (fun H locs hPn hK hS => ?_)
  have hPn : sbP D cB K5.size a6 [105, 117, 101, 111, 47, 111, 97, 105] H := hPn
  have hFr : ∀ q : Nat, q < K5.size → H[q]? = K5[q]? := fun q hq => (hK q (Nat.lt_of_lt_of_le hq hSz) (Nat.not_le.mpr hq)).trans (hFr q hq)
  have hSz : K5.size ≤ H.size := hPn.lt
  refine nv_kGn (va_runV (As := []) (rest := []) ⟨hx, hb, hml, hown, hts⟩ (c_B_toString l (n0 := K5.size) (L0 := [105, 117, 101, 111, 47, 111, 97, 105]) (by decide)) (cwV 0 hts gL_ending_J4_toString_0e30d rfl rfl rfl (by decide +kernel) ⟨Nat.le_of_ble_eq_true rfl, Nat.le_of_ble_eq_true rfl⟩) (nx_pV hT hX.1 tx0 hS (aN_sub hn9) hPn (sbP.recv hX.1 hPn)) rfl rfl hl.1 rfl (lv_room (Nat.le_of_ble_eq_true rfl)) dL_ending_58 ⟨Nat.le_of_ble_eq_true rfl, Nat.le_of_ble_eq_true rfl⟩) hS (aN_sub hn9) (fun t6 K6 locs hPn hK hS => ?_)
  have hFr : ∀ q : Nat, q < K5.size → K6[q]? = K5[q]? := fun q hq => (hK q (Nat.lt_of_lt_of_le hq hSz) (Nat.not_le.mpr hq)).trans (hFr q hq)
  have hst6 : stP D cB K5.size [105, 117, 101, 111, 47, 111, 97, 105] t6 K6 := hPn
  obtain ⟨u6, -, -, hxt6⟩ := stP.tx (A1 := aN K6.size) hL94 hT.1.1 hX.1 hst6 (by decide) (by decide) (fun q h1 h2 h3 => absurd h2 (Nat.not_lt.mpr h3))
  refine lv_astore_n (lv' := [(0, .ref t6), (1, .int (nI 6))]) hx hb dL_ending_61 rfl hl (by decide) rfl (fun ls hl => ?_)
  refine lv_iinc (v := nI 7) (lv' := [(1, .int (nI 7)), (0, .ref t6)]) hx hb dL_ending_62 hl (k := 1) rfl (by decide +kernel) (by decide) rfl (fun ls hl => ?_)
  refine lv_goto (tgt := 5) hx hb dL_ending_65 (by decide) ?_
  refine lv_iload_n hx hb dL_ending_5 rfl (lv_at hl 0 rfl) ?_
  refine lv_bipush (v := nI 8) hx hb dL_ending_6 (by decide) ?_
  refine nv_icmp_ge (tgt := 68) hx hb dL_ending_8 (by decide) (by omega) (by omega) (fun c => absurd c (by decide)) (fun _ => ?_)
  refine va_forget (fun q hq => hS.2.2 q hq) ?_
  have hn9 : s.heap.size ≤ K6.size := hS.1
  refine va_new (D := D) (ci := 9) (C := RJ4) (T := TJ4) (N := 4) (fs := [.null, .int (nI 0), .int (nI 0), .int (nI 0)]) (A := aN K6.size) (H0 := K6) (ws := []) hx hb hts inj4 tyJ4 tyJ4_ok hown (hts (.classLink RL 91 RJ4) (by decide +kernel)) (hts (.instantiable RJ4 4) (by decide +kernel)) (hts (.initialized RJ4) (by decide +kernel)) hX.1.1 (fun k q h => by simp at h) ⟨fun i j p q h => by simp at h, fun k q h => by simp at h⟩ va_S.rf (fun _ h => h) rfl (fun j hj => by rcases (show j = 0 ∨ j = 1 ∨ j = 2 ∨ j = 3 by omega) with rfl | rfl | rfl | rfl <;> rfl) (Nat.le_of_ble_eq_true rfl) (Nat.le_of_ble_eq_true rfl) dL_ending_11 (fun a7 H hP9 hD9 hS9 => ?_)
  have hPn : va_P D vwCl [(a7, .inr (9, [.null, .int (nI 0), .int (nI 0), .int (nI 0)]))] H := hP9
  have ha9 : K6.size ≤ a7 := hD9.2 0 _ rfl
  have hFr : ∀ q : Nat, q < K6.size → H[q]? = K6[q]? := fun q hq => hS9.2.1 q hq (Nat.not_le.mpr hq)
  have hSz : K6.size ≤ H.size := Nat.le_trans ha9 (Nat.le_of_lt (vx_lt hPn (k := 0) rfl))
  have hS : va_S (aN s.heap.size) s.heap H [] := hS.none.trans hS9 (aN_sub hn9)
  refine lv_dup hx hb dL_ending_14 rfl ?_
  refine nv_kGv (va_runI (As := []) (rest := [.ref a7]) ⟨hx, hb, hml, hown, hts⟩ (c_B_init l (n0 := K6.size) ha9) ⟨callB_of 0 hts gL_ending_J4_init_da8c8 rfl rfl rfl (hts (.initialized RJ4) (by decide +kernel)) (hts (.methodLink RL 93 yJ4_init_da8c8) (by decide +kernel)) (by decide +kernel) ⟨Nat.le_of_ble_eq_true rfl, Nat.le_of_ble_eq_true rfl⟩, rfl, (hts (.instanceMethod yJ4_init_da8c8) (by decide +kernel))⟩ (nx_pS hT hX.1 tx0 hS (aN_sub hn9) hPn) rfl rfl hl.1 rfl (lv_room (Nat.le_of_ble_eq_true rfl)) dL_ending_15 ⟨Nat.le_of_ble_eq_true rfl, Nat.le_of_ble_eq_true rfl⟩) hS (aN_sub hn9) (fun H locs hPn hK hS => ?_)
  have hFr : ∀ q : Nat, q < K6.size → H[q]? = K6[q]? := fun q hq => (hK q (Nat.lt_of_lt_of_le hq hSz) (Nat.not_le.mpr hq)).trans (hFr q hq)
  have hSz : K6.size ≤ H.size := hPn.lt
  refine lv_aload_n hx hb dL_ending_18 rfl (lv_at hl 1 rfl) ?_
  refine nv_kGr2 (va_runV (As := [.ref t6]) (rest := []) ⟨hx, hb, hml, hown, hts⟩ (c_B_appS l (n0 := K6.size) (r := t6) (v := u6) (L := [105, 117, 101, 111, 47, 111, 97, 105]) (L0 := []) (by decide)) (cwV 1 hts gL_ending_J4_append_15ec4 rfl rfl rfl (by decide +kernel) ⟨Nat.le_of_ble_eq_true rfl, Nat.le_of_ble_eq_true rfl⟩) (nx_pV hT hX.1 (tx1 (hxt6.kept (fun q h1 _ => hFr q h1))) hS (aN_sub hn9) hPn (sbP.recv hX.1 hPn)) rfl rfl hl.1 rfl (lv_room (Nat.le_of_ble_eq_true rfl)) dL_ending_19 ⟨Nat.le_of_ble_eq_true rfl, Nat.le_of_ble_eq_true rfl⟩) hS (aN_sub hn9) (fun H locs hPn hK hS => ?_)
  have hPn : sbP D cB K6.size a7 [105, 117, 101, 111, 47, 111, 97, 105] H := hPn
  have hFr : ∀ q : Nat, q < K6.size → H[q]? = K6[q]? := fun q hq => (hK q (Nat.lt_of_lt_of_le hq hSz) (Nat.not_le.mpr hq)).trans (hFr q hq)
  have hSz : K6.size ≤ H.size := hPn.lt
  refine lv_iload_n hx hb dL_ending_22 rfl (lv_at hl 0 rfl) ?_
  refine lv_iconst (v := nI 4) hx hb dL_ending_23 (by decide) ?_
  refine nv_icmp_ne (tgt := 32) hx hb dL_ending_24 (by decide) (by omega) (by omega) (fun _ => ?_) (fun c => absurd c (by decide))
  obtain ⟨r94, v94, hZ94, hL94⟩ := hX.2.2 (94, "", []) (by decide)
  refine va_ldcS hx hb hown hZ94 dL_ending_32 ?_
  refine nv_kGr2 (va_runV (As := [.ref r94]) (rest := []) ⟨hx, hb, hml, hown, hts⟩ (c_B_appS l (n0 := K6.size) (r := r94) (v := v94) (L := []) (L0 := [105, 117, 101, 111, 47, 111, 97, 105]) (by decide)) (cwV 1 hts gL_ending_J4_append_15ec4 rfl rfl rfl (by decide +kernel) ⟨Nat.le_of_ble_eq_true rfl, Nat.le_of_ble_eq_true rfl⟩) (nx_pV hT hX.1 (tx1 (hL94.go hS (aN_sub hn9))) hS (aN_sub hn9) hPn (sbP.recv hX.1 hPn)) rfl rfl hl.1 rfl (lv_room (Nat.le_of_ble_eq_true rfl)) dL_ending_34 ⟨Nat.le_of_ble_eq_true rfl, Nat.le_of_ble_eq_true rfl⟩) hS (aN_sub hn9) (fun H locs hPn hK hS => ?_)
  have hPn : sbP D cB K6.size a7 [105, 117, 101, 111, 47, 111, 97, 105] H := hPn
  have hFr : ∀ q : Nat, q < K6.size → H[q]? = K6[q]? := fun q hq => (hK q (Nat.lt_of_lt_of_le hq hSz) (Nat.not_le.mpr hq)).trans (hFr q hq)
  have hSz : K6.size ≤ H.size := hPn.lt
  obtain ⟨r248, v248, hZ248, hL248⟩ := hX.2.2 (248, "aeiou", [97, 101, 105, 111, 117]) (by decide)
  refine va_ldcS hx hb hown hZ248 dL_ending_37 ?_
  refine lv_iconst (v := nI 2) hx hb dL_ending_39 (by decide) ?_
  refine lv_iconst (v := nI 2) hx hb dL_ending_40 (by decide) ?_
  refine lv_iload_n hx hb dL_ending_41 rfl (lv_at hl 0 rfl) ?_
  refine lv_iconst (v := nI 4) hx hb dL_ending_42 (by decide) ?_
  refine lv_irem hx hb dL_ending_43 (by decide) ?_
  refine nv_to 3 (by decide +kernel) ?_
  refine nv_imul hx hb dL_ending_44 ?_
  refine nv_iadd hx hb dL_ending_45 ?_
  refine lv_iload_n hx hb dL_ending_46 rfl (lv_at hl 0 rfl) ?_
  refine lv_iconst (v := nI 4) hx hb dL_ending_47 (by decide) ?_
  refine lv_idiv hx hb dL_ending_48 (by decide) ?_
  refine nv_to 1 (by decide +kernel) ?_
  refine nv_iadd hx hb dL_ending_49 ?_
  refine lv_iconst (v := nI 5) hx hb dL_ending_50 (by decide) ?_
  refine lv_irem hx hb dL_ending_51 (by decide) ?_
  refine nv_to 4 (by decide +kernel) ?_
  refine nv_kS (va_runV (As := [.int (nI 4)]) (rest := [.ref a7]) ⟨hx, hb, hml, hown, hts⟩ (c_T_charAt l (A := aN s.heap.size) 4 (by decide)) (cwV 1 hts gL_ending_J0_charAt_5068e rfl rfl rfl (by decide +kernel) ⟨Nat.le_of_ble_eq_true rfl, Nat.le_of_ble_eq_true rfl⟩) (nx_pV hT hX.1 (tx1 (hL248.go hS (fun _ h => h))) hS (fun _ h => h) trivial (va_Orecv hL248.2.2.1 hS)) rfl rfl hl.1 rfl (lv_room (Nat.le_of_ble_eq_true rfl)) dL_ending_52 ⟨Nat.le_of_ble_eq_true rfl, Nat.le_of_ble_eq_true rfl⟩) ?_
  refine nv_to 117 rfl ?_
  refine nv_kGr2 (va_runV (As := [.int (nI 117)]) (rest := []) ⟨hx, hb, hml, hown, hts⟩ (c_B_appC l (n0 := K6.size) (L0 := [105, 117, 101, 111, 47, 111, 97, 105]) 117 (by decide) (by show _ ≤ 60; decide)) (cwV 1 hts gL_ending_J4_append_cf468 rfl rfl rfl (by decide +kernel) ⟨Nat.le_of_ble_eq_true rfl, Nat.le_of_ble_eq_true rfl⟩) (nx_pV hT hX.1 tx0 hS (aN_sub hn9) hPn (sbP.recv hX.1 hPn)) rfl rfl hl.1 rfl (lv_room (Nat.le_of_ble_eq_true rfl)) dL_ending_55 ⟨Nat.le_of_ble_eq_true rfl, Nat.le_of_ble_eq_true rfl⟩) hS (aN_sub hn9) (fun H locs hPn hK hS => ?_)
  have hPn : sbP D cB K6.size a7 [105, 117, 101, 111, 47, 111, 97, 105, 117] H := hPn
  have hFr : ∀ q : Nat, q < K6.size → H[q]? = K6[q]? := fun q hq => (hK q (Nat.lt_of_lt_of_le hq hSz) (Nat.not_le.mpr hq)).trans (hFr q hq)
  have hSz : K6.size ≤ H.size := hPn.lt
  refine nv_kGn (va_runV (As := []) (rest := []) ⟨hx, hb, hml, hown, hts⟩ (c_B_toString l (n0 := K6.size) (L0 := [105, 117, 101, 111, 47, 111, 97, 105, 117]) (by decide)) (cwV 0 hts gL_ending_J4_toString_0e30d rfl rfl rfl (by decide +kernel) ⟨Nat.le_of_ble_eq_true rfl, Nat.le_of_ble_eq_true rfl⟩) (nx_pV hT hX.1 tx0 hS (aN_sub hn9) hPn (sbP.recv hX.1 hPn)) rfl rfl hl.1 rfl (lv_room (Nat.le_of_ble_eq_true rfl)) dL_ending_58 ⟨Nat.le_of_ble_eq_true rfl, Nat.le_of_ble_eq_true rfl⟩) hS (aN_sub hn9) (fun t7 K7 locs hPn hK hS => ?_)
  have hFr : ∀ q : Nat, q < K6.size → K7[q]? = K6[q]? := fun q hq => (hK q (Nat.lt_of_lt_of_le hq hSz) (Nat.not_le.mpr hq)).trans (hFr q hq)
  have hst7 : stP D cB K6.size [105, 117, 101, 111, 47, 111, 97, 105, 117] t7 K7 := hPn
  refine lv_astore_n (lv' := [(0, .ref t7), (1, .int (nI 7))]) hx hb dL_ending_61 rfl hl (by decide) rfl (fun ls hl => ?_)
  refine lv_iinc (v := nI 8) (lv' := [(1, .int (nI 8)), (0, .ref t7)]) hx hb dL_ending_62 hl (k := 1) rfl (by decide +kernel) (by decide) rfl (fun ls hl => ?_)
  refine lv_goto (tgt := 5) hx hb dL_ending_65 (by decide) ?_
  refine lv_iload_n hx hb dL_ending_5 rfl (lv_at hl 0 rfl) ?_
  refine lv_bipush (v := nI 8) hx hb dL_ending_6 (by decide) ?_
  refine nv_icmp_ge (tgt := 68) hx hb dL_ending_8 (by decide) (by omega) (by omega) (fun _ => ?_) (fun c => absurd (by decide) c)
  refine lv_aload_n hx hb dL_ending_68 rfl (lv_at hl 1 rfl) ?_
  exact nv_retLn hq hx hb hr (Or.inl ⟨_, rfl⟩) hlocks (Nat.le_of_ble_eq_true rfl) (Nat.le_of_ble_eq_true rfl) (hS.wid (aN_sub hn1)) (hst7.wid (Nat.le_trans hn1 hn9)) dL_ending_69
