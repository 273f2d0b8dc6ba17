def wk (cI : ClassId) (w : Nat → Nat) (P : Nat → Int32) (Q : Nat → Nat) : va_W := [(w 0, .inr (7, [.ref (w 1), .ref (w 2)])), (w 1, .inl (cI, 6, .inl P)), (w 2, .inl (cI, 6, .inl (gN Q)))]
theorem way_bit {z k : Nat} : z &&& 1 <<< k = 0 ↔ ¬ z >>> k &&& 1 = 1 := by
  rw [bit_01]
  by_cases h : z &&& 1 <<< k = 0
  · rw [if_pos h]; exact ⟨fun _ => by decide, fun _ => h⟩
  · rw [if_neg h]; exact ⟨fun q => absurd q h, fun q => absurd rfl q⟩

set_option maxHeartbeats 1000000 in
set_option maxRecDepth 100000 in
theorem c_X5_roomsFrom (l : Launch) {D : va_G} {cI cC cD cR : ClassId} {sa : sA} {A : Nat → Prop} {ad : Nat → Nat} {u : hS} {G : Nat → Nat} {b : Nat} (hR : hRel u G) (hG : gWf b G) (q9 : Nat) (a : Nat) (x : Int32) (ha : a < 6) : Met l yX5_roomsFrom wsX5_roomsFrom ({ frames := 1, cells := 0, slots := 0, locals := 26 }) (va_Pc [.ref q9, .ref (ad 0), .int (nI a), .int x] (tPre D [(cI, .int), (cC, .char), (cD, .object "DoorDialect$Door"), (cR, .object "DoorDialect$House")] nN sa A (fun H => va_P D vwCl (hw cI cD ad u) H))) (sQ (nI (gRw G a x))) 0 0 (fun _ => False) := by
  refine nv_met (cc := cX5_roomsFrom) (maxL := 6) (ret := (some .int)) (by decide) rfl (Nat.le_of_ble_eq_true rfl) ?_
  intro p0 e0 s m0 args below meth c0 Q hq hargs hnA hpre ls hl
  obtain ⟨hx, hb, hr, hts, hown, hlocks, hml⟩ := hnA
  obtain ⟨hP, hT⟩ := hpre
  have hK := hT.1
  have hown : s.vm.findClass RX5 = some m0.cls := hown
  have hP : va_P D vwCl (hw cI cD ad u) s.heap := hP
  have hl : lv_has ls 6 [(0, .ref q9), (1, .ref (ad 0)), (2, .int (nI a)), (3, .int x)] := hl
  have hS : va_S A s.heap s.heap [] := va_S.rf
  obtain ⟨g_b, g_k, g_0, g_1, g_2, g_e, g_d, g_t, g_y, g_s, g_h⟩ := id hG
  have zq0 : G 0 = G 0 := rfl
  refine lv_iconst (v := nI 1) hx hb dX5_roomsFrom_0 (by decide) ?_
  refine lv_iload_n hx hb dX5_roomsFrom_1 rfl (lv_at hl 2 rfl) ?_
  refine lv_ishl hx hb dX5_roomsFrom_2 ?_
  refine nv_to (1 <<< a) (nv_1shl (by omega)) ?_
  refine lv_istore (lv' := [(4, .int (nI (1 <<< a))), (0, .ref q9), (1, .ref (ad 0)), (2, .int (nI a)), (3, .int x)]) hx hb dX5_roomsFrom_3 hl (by decide) rfl (fun ls hl => ?_)
  refine lv_iconst (v := nI 0) hx hb dX5_roomsFrom_5 (by decide) ?_
  refine lv_istore (lv' := [(5, .int (nI 0)), (4, .int (nI (1 <<< a))), (0, .ref q9), (1, .ref (ad 0)), (2, .int (nI a)), (3, .int x)]) hx hb dX5_roomsFrom_6 hl (by decide) rfl (fun ls hl => ?_)
  have hloop1 : ∀ (nn : Nat) (k : Nat), (k ≤ 6) → 6 - k < nn → ∀ (ls : Array Slot), lv_has ls 6 [(5, .int (nI k)), (4, .int (nI (gIt G x (1 <<< a) k))), (0, .ref q9), (1, .ref (ad 0)), (2, .int (nI a)), (3, .int x)] → W p0 l e0 ({ frames := 1, cells := 0, slots := 0, locals := 26 }) s m0 args below meth c0 s.heap [] 0 0 Q (F0 m0 8 ls []) := by
    intro nn8
    induction nn8 with
    | zero => intro k hk hn0  _ _; exact absurd hn0 (Nat.not_lt_zero _)
    | succ nn8 ih8 =>
      intro k hk hn8  ls hl
      refine lv_iload hx hb dX5_roomsFrom_8 (lv_at hl 0 rfl) ?_
      refine lv_bipush (v := nI 6) hx hb dX5_roomsFrom_10 (by decide) ?_
      refine nv_icmp_ge (tgt := 33) hx hb dX5_roomsFrom_12 (by decide) (by omega) (by omega) (fun c2 => ?_) (fun c2 => ?_)
      · refine lv_iload hx hb dX5_roomsFrom_33 (lv_at hl 1 rfl) ?_
        exact nv_retS hq hx hb hr hlocks (nar_i _) (by rw [show k = 6 by omega] <;> rfl) dX5_roomsFrom_35
      · refine lv_iload hx hb dX5_roomsFrom_15 (lv_at hl 1 rfl) ?_
        refine lv_aload_n hx hb dX5_roomsFrom_17 rfl (lv_at hl 3 rfl) ?_
        refine lv_iload hx hb dX5_roomsFrom_18 (lv_at hl 1 rfl) ?_
        refine lv_iload_n hx hb dX5_roomsFrom_20 rfl (lv_at hl 5 rfl) ?_
        refine nv_kS (va_runV (As := [.int (nI (gIt G x (1 <<< a) k)), .int x]) (rest := [.int (nI (gIt G x (1 <<< a) k))]) ⟨hx, hb, hml, hown, hts⟩ (c_X1_roomsBeside l hR hG (gIt G x (1 <<< a) k) (x) (gIt_lt hG (shl1_lt ha) x k)) (cwV 2 hts gX5_roomsFrom_X1_roomsBeside rfl rfl rfl (by decide +kernel) ⟨Nat.le_of_ble_eq_true rfl, Nat.le_of_ble_eq_true rfl⟩) (nt_pV hT hS hP (va_recv hK.1 hP (ci := 3) (q0 := 0) rfl rfl)) rfl rfl hl.1 rfl (lv_room (Nat.le_of_ble_eq_true rfl)) dX5_roomsFrom_21 ⟨Nat.zero_le _, Nat.zero_le _⟩) ?_
        refine lv_ior hx hb dX5_roomsFrom_24 ?_
        refine nv_to ((gIt G x (1 <<< a) k) ||| (gBes G (gIt G x (1 <<< a) k) (x) (G 0))) (nb_or _ _) ?_
        refine nv_to (gIt G x (1 <<< a) (k + 1)) (congrArg nI (gNx_bes _ _ _ _).symm) ?_
        refine lv_istore (lv' := [(4, .int (nI (gIt G x (1 <<< a) (k + 1)))), (5, .int (nI k)), (0, .ref q9), (1, .ref (ad 0)), (2, .int (nI a)), (3, .int x)]) hx hb dX5_roomsFrom_25 hl (by decide) rfl (fun ls hl => ?_)
        refine lv_iinc (v := nI (k + 1)) (lv' := [(5, .int (nI (k + 1))), (4, .int (nI (gIt G x (1 <<< a) (k + 1)))), (0, .ref q9), (1, .ref (ad 0)), (2, .int (nI a)), (3, .int x)]) hx hb dX5_roomsFrom_27 hl (k := 1) rfl (by show nI _ + Int32.ofInt 1 = _; exact nI_add _ 1) (by decide) rfl (fun ls hl => ?_)
        refine lv_goto (tgt := 8) hx hb dX5_roomsFrom_30 (by decide) ?_
        exact ih8  (k + 1) ((by omega)) (by omega) ls (lv_sub hl [0, 1, 2, 3, 4, 5] rfl)
  exact hloop1 _ 0 ((Nat.zero_le _)) (Nat.lt_succ_self _) ls (lv_sub hl [0, 1, 2, 3, 4, 5] rfl)

set_option maxHeartbeats 1000000 in
set_option maxRecDepth 100000 in
theorem c_X5_passedBySets (l : Launch) {D : va_G} {cI cC cD cR : ClassId} {sa : sA} {A : Nat → Prop} {ad : Nat → Nat} {u : hS} {G : Nat → Nat} {b : Nat} (hR : hRel u G) (hG : gWf b G) (q9 : Nat) (a c : Nat) (ha : a < 6) (hc : c < 6) : Met l yX5_passedBySets wsX5_passedBySets ({ frames := 1, cells := 0, slots := 0, locals := 26 }) (va_Pc [.ref q9, .ref (ad 0), .int (nI a), .int (nI c)] (tPre D [(cI, .int), (cC, .char), (cD, .object "DoorDialect$Door"), (cR, .object "DoorDialect$House")] nN sa A (fun H => va_P D vwCl (hw cI cD ad u) H))) (sQ ((if gWay G a c < 6 then nI (gWay G a c) else -1))) 0 0 (fun _ => False) := by
  refine nv_met (cc := cX5_passedBySets) (maxL := 6) (ret := (some .int)) (by decide) rfl (Nat.le_of_ble_eq_true rfl) ?_
  intro p0 e0 s m0 args below meth c0 Q hq hargs hnA hpre ls hl
  obtain ⟨hx, hb, hr, hts, hown, hlocks, hml⟩ := hnA
  obtain ⟨hP, hT⟩ := hpre
  have hK := hT.1
  have hown : s.vm.findClass RX5 = some m0.cls := hown
  have hP : va_P D vwCl (hw cI cD ad u) s.heap := hP
  have hl : lv_has ls 6 [(0, .ref q9), (1, .ref (ad 0)), (2, .int (nI a)), (3, .int (nI c))] := hl
  have hS : va_S A s.heap s.heap [] := va_S.rf
  obtain ⟨g_b, g_k, g_0, g_1, g_2, g_e, g_d, g_t, g_y, g_s, g_h⟩ := id hG
  have zq0 : G 0 = G 0 := rfl
  refine lv_iconst (v := nI 1) hx hb dX5_passedBySets_0 (by decide) ?_
  refine lv_iload_n hx hb dX5_passedBySets_1 rfl (lv_at hl 2 rfl) ?_
  refine lv_ishl hx hb dX5_passedBySets_2 ?_
  refine nv_to (1 <<< a) (nv_1shl (by omega)) ?_
  refine lv_istore (lv' := [(4, .int (nI (1 <<< a))), (0, .ref q9), (1, .ref (ad 0)), (2, .int (nI a)), (3, .int (nI c))]) hx hb dX5_passedBySets_3 hl (by decide) rfl (fun ls hl => ?_)
  refine lv_iconst (v := nI 0) hx hb dX5_passedBySets_5 (by decide) ?_
  refine lv_istore (lv' := [(5, .int (nI 0)), (4, .int (nI (1 <<< a))), (0, .ref q9), (1, .ref (ad 0)), (2, .int (nI a)), (3, .int (nI c))]) hx hb dX5_passedBySets_6 hl (by decide) rfl (fun ls hl => ?_)
  have hloop1 : ∀ (nn : Nat) (k : Nat), (k ≤ 6) → (∀ j, j < k → ¬ rB G a j c) → 6 - k < nn → ∀ (ls : Array Slot), lv_has ls 6 [(5, .int (nI k)), (4, .int (nI (gIt G (-1) (1 <<< a) k))), (0, .ref q9), (1, .ref (ad 0)), (2, .int (nI a)), (3, .int (nI c))] → W p0 l e0 ({ frames := 1, cells := 0, slots := 0, locals := 26 }) s m0 args below meth c0 s.heap [] 0 0 Q (F0 m0 8 ls []) := by
    intro nn8
    induction nn8 with
    | zero => intro k hk hn hn0  _ _; exact absurd hn0 (Nat.not_lt_zero _)
    | succ nn8 ih8 =>
      intro k hk hn hn8  ls hl
      refine lv_iload hx hb dX5_passedBySets_8 (lv_at hl 0 rfl) ?_
      refine lv_bipush (v := nI 6) hx hb dX5_passedBySets_10 (by decide) ?_
      refine nv_icmp_ge (tgt := 45) hx hb dX5_passedBySets_12 (by decide) (by omega) (by omega) (fun c2 => ?_) (fun c2 => ?_)
      · refine lv_iconst (v := (-1)) hx hb dX5_passedBySets_45 (by decide) ?_
        exact nv_retS hq hx hb hr hlocks (nar_i _) (by rw [show gWay G a c = 6 from fd_none (fun j hj => hn j (by omega)), if_neg (by decide)]) dX5_passedBySets_46
      · refine lv_iload hx hb dX5_passedBySets_15 (lv_at hl 1 rfl) ?_
        refine lv_iconst (v := nI 1) hx hb dX5_passedBySets_17 (by decide) ?_
        refine lv_iload_n hx hb dX5_passedBySets_18 rfl (lv_at hl 5 rfl) ?_
        refine lv_ishl hx hb dX5_passedBySets_19 ?_
        refine nv_to (1 <<< c) (nv_1shl (by omega)) ?_
        refine lv_iand hx hb dX5_passedBySets_20 ?_
        refine nv_to ((gIt G (-1) (1 <<< a) k) &&& (1 <<< c)) (nb_and _ _) ?_
        refine nv_if_eq (tgt := 27) hx hb dX5_passedBySets_21 (by decide) (by exact and_lt6 (shl1_lt (by omega))) (fun c3 => ?_) (fun c3 => ?_)
        · refine lv_iload hx hb dX5_passedBySets_27 (lv_at hl 1 rfl) ?_
          refine lv_aload_n hx hb dX5_passedBySets_29 rfl (lv_at hl 3 rfl) ?_
          refine lv_iload hx hb dX5_passedBySets_30 (lv_at hl 1 rfl) ?_
          refine lv_iconst (v := (-1)) hx hb dX5_passedBySets_32 (by decide) ?_
          refine nv_kS (va_runV (As := [.int (nI (gIt G (-1) (1 <<< a) k)), .int ((-1))]) (rest := [.int (nI (gIt G (-1) (1 <<< a) k))]) ⟨hx, hb, hml, hown, hts⟩ (c_X1_roomsBeside l hR hG (gIt G (-1) (1 <<< a) k) ((-1)) (gIt_lt hG (shl1_lt ha) (-1) k)) (cwV 2 hts gX5_passedBySets_X1_roomsBeside rfl rfl rfl (by decide +kernel) ⟨Nat.le_of_ble_eq_true rfl, Nat.le_of_ble_eq_true rfl⟩) (nt_pV hT hS hP (va_recv hK.1 hP (ci := 3) (q0 := 0) rfl rfl)) rfl rfl hl.1 rfl (lv_room (Nat.le_of_ble_eq_true rfl)) dX5_passedBySets_33 ⟨Nat.zero_le _, Nat.zero_le _⟩) ?_
          refine lv_ior hx hb dX5_passedBySets_36 ?_
          refine nv_to ((gIt G (-1) (1 <<< a) k) ||| (gBes G (gIt G (-1) (1 <<< a) k) ((-1)) (G 0))) (nb_or _ _) ?_
          refine nv_to (gIt G (-1) (1 <<< a) (k + 1)) (congrArg nI (gNx_bes _ _ _ _).symm) ?_
          refine lv_istore (lv' := [(4, .int (nI (gIt G (-1) (1 <<< a) (k + 1)))), (5, .int (nI k)), (0, .ref q9), (1, .ref (ad 0)), (2, .int (nI a)), (3, .int (nI c))]) hx hb dX5_passedBySets_37 hl (by decide) rfl (fun ls hl => ?_)
          refine lv_iinc (v := nI (k + 1)) (lv' := [(5, .int (nI (k + 1))), (4, .int (nI (gIt G (-1) (1 <<< a) (k + 1)))), (0, .ref q9), (1, .ref (ad 0)), (2, .int (nI a)), (3, .int (nI c))]) hx hb dX5_passedBySets_39 hl (k := 1) rfl (by show nI _ + Int32.ofInt 1 = _; exact nI_add _ 1) (by decide) rfl (fun ls hl => ?_)
          refine lv_goto (tgt := 8) hx hb dX5_passedBySets_42 (by decide) ?_
          exact ih8  (k + 1) ((by omega)) ((fun j hj => by rcases (show j < k ∨ j = k by omega) with h | h; exact hn j h; subst h; exact way_bit.mp c3)) (by omega) ls (lv_sub hl [0, 1, 2, 3, 4, 5] rfl)
        · refine lv_iload hx hb dX5_passedBySets_24 (lv_at hl 0 rfl) ?_
          exact nv_retS hq hx hb hr hlocks (nar_i _) (by rw [show gWay G a c = k from fd_some hn (Decidable.not_not.mp (fun q => c3 (way_bit.mpr q))) (by omega), if_pos (by omega)]) dX5_passedBySets_26
  exact hloop1 _ 0 ((Nat.zero_le _)) ((fun j hj => absurd hj (Nat.not_lt_zero j))) (Nat.lt_succ_self _) ls (lv_sub hl [0, 1, 2, 3, 4, 5] rfl)

theorem qB_1 {G : Nat → Nat} {r d : Nat} {w : (Nat → Int32) × (Nat → Nat) × Nat} {P1 : Nat → Int32} {Q1 : Nat → Nat} {n1 : Nat} {w2 : (Nat → Int32) × (Nat → Nat) × Nat} (h : qB G r w d = (P1, Q1, n1)) (e : qS G r (P1, Q1, n1) d = w2) : qB G r w (d + 1) = w2 := by
  show qS G r (qB G r w d) d = w2
  rw [h]; exact e

set_option maxHeartbeats 1000000 in
set_option maxRecDepth 100000 in
theorem c_X5_queueBehind (l : Launch) {D : va_G} {cI cC cD cR : ClassId} {sa : sA} {A : Nat → Prop} {w ad : Nat → Nat} {u : hS} {G : Nat → Nat} {b : Nat} {PA : Nat → Int32} {QA : Nat → Nat} (hR : hRel u G) (hG : gWf b G) (hD : ∀ P Q, va_D A (wk cI w P Q ++ hw cI cD ad u)) (r n : Nat) (hr6 : r < 6) (hn6 : n ≤ 6) : Met l yX5_queueBehind wsX5_queueBehind ({ frames := 1, cells := 0, slots := 0, locals := 22 }) (va_Pc [.ref (w 0), .ref (ad 0), .int (nI r), .int (nI n)] (tPre D [(cI, .int), (cC, .char), (cD, .object "DoorDialect$Door"), (cR, .object "DoorDialect$House")] nN sa A (fun H => va_P D vwCl (wk cI w PA QA ++ hw cI cD ad u) H))) (gQ (nI ((qB G r (PA, QA, n) (G 0)).2.2)) ((fun H => va_P D vwCl (wk cI w (qB G r (PA, QA, n) (G 0)).1 (qB G r (PA, QA, n) (G 0)).2.1 ++ hw cI cD ad u) H)) A) 0 0 A := by
  refine nv_met (cc := cX5_queueBehind) (maxL := 7) (ret := (some .int)) (by decide) rfl (Nat.le_of_ble_eq_true rfl) ?_
  intro p0 e0 s m0 args below meth c0 Q hq hargs hnA hpre ls hl
  obtain ⟨hx, hb, hr, hts, hown, hlocks, hml⟩ := hnA
  obtain ⟨hP, hT⟩ := hpre
  have hK := hT.1
  have hown : s.vm.findClass RX5 = some m0.cls := hown
  have hP : va_P D vwCl (wk cI w PA QA ++ hw cI cD ad u) s.heap := hP
  have hl : lv_has ls 7 [(0, .ref (w 0)), (1, .ref (ad 0)), (2, .int (nI r)), (3, .int (nI n))] := hl
  have hS : va_S A s.heap s.heap [] := va_S.rf
  have in_X1 : ∀ w ∈ wsX10, w ∈ wsX5_queueBehind := by decide +kernel
  have in_X5 : ∀ w ∈ wsX50, w ∈ wsX5_queueBehind := by decide +kernel
  have fl_9 := hts (.fieldLink RX5 9 "DoorDialect$Walk" "passed" "[I") (by decide +kernel)
  have fl_15 := hts (.fieldLink RX5 15 "DoorDialect$Walk" "queue" "[I") (by decide +kernel)
  have fl_22 := hts (.fieldLink RX5 22 "DoorDialect$House" "doorCount" "I") (by decide +kernel)
  obtain ⟨g_b, g_k, g_0, g_1, g_2, g_e, g_d, g_t, g_y, g_s, g_h⟩ := id hG
  have zq0 : G 0 = G 0 := rfl
  refine lv_iload_n hx hb dX5_queueBehind_0 rfl (lv_at hl 3 rfl) ?_
  refine lv_istore (lv' := [(4, .int (nI n)), (0, .ref (w 0)), (1, .ref (ad 0)), (2, .int (nI r)), (3, .int (nI n))]) hx hb dX5_queueBehind_1 hl (by decide) rfl (fun ls hl => ?_)
  refine lv_iconst (v := nI 0) hx hb dX5_queueBehind_3 (by decide) ?_
  refine lv_istore (lv' := [(5, .int (nI 0)), (4, .int (nI n)), (0, .ref (w 0)), (1, .ref (ad 0)), (2, .int (nI r)), (3, .int (nI n))]) hx hb dX5_queueBehind_4 hl (by decide) rfl (fun ls hl => ?_)
  have hloop1 : ∀ (nn : Nat) (d : Nat) (P1 : Nat → Int32) (Q1 : Nat → Nat) (n1 : Nat), (d ≤ G 0) → (qB G r (PA, QA, n) d = (P1, Q1, n1)) → (n1 ≤ 6) → G 0 - d < nn → ∀ (H : Heap) (locs : List Loc), va_P D vwCl (wk cI w P1 Q1 ++ hw cI cD ad u) H → va_S A s.heap H locs → ∀ (ls : Array Slot), lv_has ls 7 [(5, .int (nI d)), (4, .int (nI n1)), (0, .ref (w 0)), (1, .ref (ad 0)), (2, .int (nI r)), (3, .int (nI n))] → W p0 l e0 ({ frames := 1, cells := 0, slots := 0, locals := 22 }) s m0 args below meth c0 H locs 0 0 Q (F0 m0 6 ls []) := by
    intro nn6
    induction nn6 with
    | zero => intro d P1 Q1 n1 hd hq9 hn1 hn0 _ _ _ _ _ _; exact absurd hn0 (Nat.not_lt_zero _)
    | succ nn6 ih6 =>
      intro d P1 Q1 n1 hd hq9 hn1 hn6 H locs hP hS ls hl
      have hP : va_P D vwCl (wk cI w P1 Q1 ++ hw cI cD ad u) H := hP
      refine lv_iload hx hb dX5_queueBehind_6 (lv_at hl 0 rfl) ?_
      refine lv_aload_n hx hb dX5_queueBehind_8 rfl (lv_at hl 3 rfl) ?_
      refine va_get (D := D) (ci := 3) (v := .int (nI (hs_c u 0))) (C := RX1) (T := TX1) (N := 12) hx hb hts in_X1 hown hK.1 (va_P.right hP) 0 rfl rfl 5 (by decide) fl_22 (fun _ h9 => h9) rfl dX5_queueBehind_9 ?_
      refine nv_to (G 0) (congrArg nI ((hR.c0))) ?_
      refine nv_icmp_ge (tgt := 85) hx hb dX5_queueBehind_12 (by decide) (by omega) (by omega) (fun c2 => ?_) (fun c2 => ?_)
      · refine lv_iload hx hb dX5_queueBehind_85 (lv_at hl 1 rfl) ?_
        exact nv_retG hq hx hb hr hlocks (nar_i _) (by rw [show G 0 = d by omega, hq9]) hS (by rw [show G 0 = d by omega, hq9]; exact hP) dX5_queueBehind_87
      · refine lv_aload_n hx hb dX5_queueBehind_15 rfl (lv_at hl 3 rfl) ?_
        refine lv_iload hx hb dX5_queueBehind_16 (lv_at hl 0 rfl) ?_
        refine lv_iload_n hx hb dX5_queueBehind_18 rfl (lv_at hl 4 rfl) ?_
        refine nv_kS (va_runV (As := [.int (nI d), .int (nI r)]) (rest := []) ⟨hx, hb, hml, hown, hts⟩ (c_X1_roomBehind l hR hG d r (by omega) (by omega)) (cwV 2 hts gX5_queueBehind_X1_roomBehind rfl rfl rfl (by decide +kernel) ⟨Nat.le_of_ble_eq_true rfl, Nat.le_of_ble_eq_true rfl⟩) (nt_pV hT hS (va_P.right hP) (va_recv hK.1 (va_P.right hP) (ci := 3) (q0 := 0) rfl rfl)) rfl rfl hl.1 rfl (lv_room (Nat.le_of_ble_eq_true rfl)) dX5_queueBehind_19 ⟨Nat.zero_le _, Nat.zero_le _⟩) ?_
        refine lv_istore (lv' := [(6, .int (gBehind G d r)), (5, .int (nI d)), (4, .int (nI n1)), (0, .ref (w 0)), (1, .ref (ad 0)), (2, .int (nI r)), (3, .int (nI n))]) hx hb dX5_queueBehind_22 hl (by decide) rfl (fun ls hl => ?_)
        refine lv_iload hx hb dX5_queueBehind_24 (lv_at hl 0 rfl) ?_
        refine lv_bipush (v := nI 6) hx hb dX5_queueBehind_26 (by decide) ?_
        refine nv_kS (va_runSN (As := [.int (gBehind G d r), .int (nI 6)]) (rest := []) ⟨hx, hb, hml, hown, hts⟩ (c_X6_isBelow l (gBehind G d r) 6 (by omega)) ⟨va_cnB 2 hts gX5_queueBehind_X6_isBelow_n32 rfl rfl rfl (hK.2 (RX5, 32, yX6_isBelow, RX6) (List.mem_of_getElem? (i := 1) rfl)) (hts (.initialized RX6) (by decide +kernel)) (by decide +kernel) ⟨Nat.le_of_ble_eq_true rfl, Nat.le_of_ble_eq_true rfl⟩, (hts (.static yX6_isBelow) (by decide +kernel)), trivial⟩ (nt_pS hT hS trivial) rfl rfl hl.1 rfl (lv_room (Nat.le_of_ble_eq_true rfl)) dX5_queueBehind_28 ⟨Nat.zero_le _, Nat.zero_le _⟩) ?_
        refine nv_ifb_eq (tgt := 79) hx hb dX5_queueBehind_31 (by decide) (fun c3 => ?_) (fun c3 => ?_)
        · refine lv_iinc (v := nI (d + 1)) (lv' := [(5, .int (nI (d + 1))), (6, .int (gBehind G d r)), (4, .int (nI n1)), (0, .ref (w 0)), (1, .ref (ad 0)), (2, .int (nI r)), (3, .int (nI n))]) hx hb dX5_queueBehind_79 hl (k := 1) rfl (by show nI _ + Int32.ofInt 1 = _; exact nI_add _ 1) (by decide) rfl (fun ls hl => ?_)
          refine lv_goto (tgt := 6) hx hb dX5_queueBehind_82 (by decide) ?_
          exact ih6  (d + 1) P1 Q1 n1 ((by omega)) ((qB_1 hq9 (if_neg (fun q => c3 q.1)))) ((by omega)) (by omega) _ _ hP hS ls (lv_sub hl [0, 2, 3, 4, 5, 6] rfl)
        · obtain ⟨x, hx6, ex⟩ := iR_of c3 (by decide)
          have et : tN (gBehind G d r) = x := by rw [ex]; exact tN_nI (by omega)
          rw [ex] at hl
          refine lv_aload_n hx hb dX5_queueBehind_34 rfl (lv_at hl 3 rfl) ?_
          refine va_get (D := D) (ci := 7) (v := .ref (w 1)) (C := RX5) (T := TX5) (N := 2) hx hb hts in_X5 hown hK.1 hP 0 rfl rfl 0 (by decide) fl_9 (fun _ h9 => h9) rfl dX5_queueBehind_35 ?_
          refine lv_iload hx hb dX5_queueBehind_38 (lv_at hl 0 rfl) ?_
          refine nv_iald (i := x) hx hb hK.1 hP 1 0 rfl rfl (by omega) (by decide) dX5_queueBehind_40 ?_
          refine lv_iconst (v := (-1)) hx hb dX5_queueBehind_41 (by decide) ?_
          refine lv_icmp_ne (tgt := 79) hx hb dX5_queueBehind_42 (by decide) (fun c4 => ?_) (fun c4 => ?_)
          · refine lv_iinc (v := nI (d + 1)) (lv' := [(5, .int (nI (d + 1))), (6, .int (nI x)), (4, .int (nI n1)), (0, .ref (w 0)), (1, .ref (ad 0)), (2, .int (nI r)), (3, .int (nI n))]) hx hb dX5_queueBehind_79 hl (k := 1) rfl (by show nI _ + Int32.ofInt 1 = _; exact nI_add _ 1) (by decide) rfl (fun ls hl => ?_)
            refine lv_goto (tgt := 6) hx hb dX5_queueBehind_82 (by decide) ?_
            exact ih6  (d + 1) P1 Q1 n1 ((by omega)) ((qB_1 hq9 (if_neg (fun q => by have q2 := q.2.1; rw [et] at q2; exact c4 q2)))) ((by omega)) (by omega) _ _ hP hS ls (lv_sub hl [0, 2, 3, 4, 5, 6] rfl)
          · refine lv_iload hx hb dX5_queueBehind_45 (lv_at hl 2 rfl) ?_
            refine lv_bipush (v := nI 6) hx hb dX5_queueBehind_47 (by decide) ?_
            refine nv_icmp_ge (tgt := 79) hx hb dX5_queueBehind_49 (by decide) (by omega) (by omega) (fun c5 => ?_) (fun c5 => ?_)
            · refine lv_iinc (v := nI (d + 1)) (lv' := [(5, .int (nI (d + 1))), (6, .int (nI x)), (4, .int (nI n1)), (0, .ref (w 0)), (1, .ref (ad 0)), (2, .int (nI r)), (3, .int (nI n))]) hx hb dX5_queueBehind_79 hl (k := 1) rfl (by show nI _ + Int32.ofInt 1 = _; exact nI_add _ 1) (by decide) rfl (fun ls hl => ?_)
              refine lv_goto (tgt := 6) hx hb dX5_queueBehind_82 (by decide) ?_
              exact ih6  (d + 1) P1 Q1 n1 ((by omega)) ((qB_1 hq9 (if_neg (fun q => absurd q.2.2 (Nat.not_lt.mpr c5))))) ((by omega)) (by omega) _ _ hP hS ls (lv_sub hl [0, 2, 3, 4, 5, 6] rfl)
            · refine lv_aload_n hx hb dX5_queueBehind_52 rfl (lv_at hl 3 rfl) ?_
              refine va_get (D := D) (ci := 7) (v := .ref (w 1)) (C := RX5) (T := TX5) (N := 2) hx hb hts in_X5 hown hK.1 hP 0 rfl rfl 0 (by decide) fl_9 (fun _ h9 => h9) rfl dX5_queueBehind_53 ?_
              refine lv_iload hx hb dX5_queueBehind_56 (lv_at hl 0 rfl) ?_
              refine lv_aload_n hx hb dX5_queueBehind_58 rfl (lv_at hl 3 rfl) ?_
              refine va_get (D := D) (ci := 7) (v := .ref (w 1)) (C := RX5) (T := TX5) (N := 2) hx hb hts in_X5 hown hK.1 hP 0 rfl rfl 0 (by decide) fl_9 (fun _ h9 => h9) rfl dX5_queueBehind_59 ?_
              refine lv_iload_n hx hb dX5_queueBehind_62 rfl (lv_at hl 5 rfl) ?_
              refine nv_iald (i := r) hx hb hK.1 hP 1 0 rfl rfl (by omega) (by decide) dX5_queueBehind_63 ?_
              refine lv_iconst (v := nI 1) hx hb dX5_queueBehind_64 (by decide) ?_
              refine lv_iadd hx hb dX5_queueBehind_65 ?_
              refine nv_iast (i := x) hx hb hK.1 hP (hD _ _) hS 1 0 rfl rfl (by omega) (by decide) dX5_queueBehind_66 (fun H locs hP hS => ?_)
              have hP : va_P D vwCl (wk cI w (upd P1 (x) ((P1 (r)) + (nI (1)))) Q1 ++ hw cI cD ad u) H := hP
              refine lv_aload_n hx hb dX5_queueBehind_67 rfl (lv_at hl 3 rfl) ?_
              refine va_get (D := D) (ci := 7) (v := .ref (w 2)) (C := RX5) (T := TX5) (N := 2) hx hb hts in_X5 hown hK.1 hP 0 rfl rfl 1 (by decide) fl_15 (fun _ h9 => h9) rfl dX5_queueBehind_68 ?_
              refine lv_iload hx hb dX5_queueBehind_71 (lv_at hl 2 rfl) ?_
              refine lv_iload hx hb dX5_queueBehind_73 (lv_at hl 0 rfl) ?_
              refine nv_gast (i := n1) (v := x) hx hb hK.1 hP (hD _ _) hS 2 0 rfl rfl (by omega) (by decide) dX5_queueBehind_75 (fun H locs hP hS => ?_)
              have hP : va_P D vwCl (wk cI w (upd P1 (x) ((P1 (r)) + (nI (1)))) (va_up Q1 (n1) (x)) ++ hw cI cD ad u) H := hP
              refine lv_iinc (v := nI (n1 + 1)) (lv' := [(4, .int (nI (n1 + 1))), (6, .int (nI x)), (5, .int (nI d)), (0, .ref (w 0)), (1, .ref (ad 0)), (2, .int (nI r)), (3, .int (nI n))]) hx hb dX5_queueBehind_76 hl (k := 2) rfl (by show nI _ + Int32.ofInt 1 = _; exact nI_add _ 1) (by decide) rfl (fun ls hl => ?_)
              refine lv_iinc (v := nI (d + 1)) (lv' := [(5, .int (nI (d + 1))), (4, .int (nI (n1 + 1))), (6, .int (nI x)), (0, .ref (w 0)), (1, .ref (ad 0)), (2, .int (nI r)), (3, .int (nI n))]) hx hb dX5_queueBehind_79 hl (k := 2) rfl (by show nI _ + Int32.ofInt 1 = _; exact nI_add _ 1) (by decide) rfl (fun ls hl => ?_)
              refine lv_goto (tgt := 6) hx hb dX5_queueBehind_82 (by decide) ?_
              exact ih6  (d + 1) ((upd P1 (x) ((P1 (r)) + (nI (1))))) ((va_up Q1 (n1) (x))) (n1 + 1) ((by omega)) ((qB_1 hq9 ((if_pos ⟨by rw [ex]; exact iR_nI hx6 (by decide), by rw [et]; exact c4, Nat.lt_of_not_le c5⟩).trans (by rw [et])))) ((by omega)) (by omega) _ _ hP hS ls (lv_sub hl [0, 1, 3, 4, 5, 6] rfl)
  exact hloop1 _ 0 PA QA n ((Nat.zero_le _)) (rfl) (hn6) (Nat.lt_succ_self _) _ _ hP hS ls (lv_sub hl [0, 1, 2, 3, 4, 5] rfl)

set_option maxHeartbeats 1000000 in
set_option maxRecDepth 100000 in
theorem c_X5_passedByRooms (l : Launch) {D : va_G} {cI cC cD cR : ClassId} {sa : sA} {A : Nat → Prop} {w ad : Nat → Nat} {u : hS} {G : Nat → Nat} {b : Nat} {PA : Nat → Int32} {QA : Nat → Nat} (hR : hRel u G) (hG : gWf b G) (hD : ∀ P Q, va_D A (wk cI w P Q ++ hw cI cD ad u)) (a c : Nat) (ha : a < 6) (hc : c < 6) : Met l yX5_passedByRooms wsX5_passedByRooms ({ frames := 2, cells := 0, slots := 0, locals := 48 }) (va_Pc [.ref (w 0), .ref (ad 0), .int (nI a), .int (nI c)] (tPre D [(cI, .int), (cC, .char), (cD, .object "DoorDialect$Door"), (cR, .object "DoorDialect$House")] nN sa A (fun H => va_P D vwCl (wk cI w PA QA ++ hw cI cD ad u) H))) (gQ ((if gWay G a c < 6 then nI (gWay G a c) else -1)) ((fun H => ∃ P Q, va_P D vwCl (wk cI w P Q ++ hw cI cD ad u) H)) A) 0 0 A := by
  refine nv_met (cc := cX5_passedByRooms) (maxL := 6) (ret := (some .int)) (by decide) rfl (Nat.le_of_ble_eq_true rfl) ?_
  intro p0 e0 s m0 args below meth c0 Q hq hargs hnA hpre ls hl
  obtain ⟨hx, hb, hr, hts, hown, hlocks, hml⟩ := hnA
  obtain ⟨hP, hT⟩ := hpre
  have hK := hT.1
  have hown : s.vm.findClass RX5 = some m0.cls := hown
  have hP : va_P D vwCl (wk cI w PA QA ++ hw cI cD ad u) s.heap := hP
  have hl : lv_has ls 6 [(0, .ref (w 0)), (1, .ref (ad 0)), (2, .int (nI a)), (3, .int (nI c))] := hl
  have hS : va_S A s.heap s.heap [] := va_S.rf
  have in_X5 : ∀ w ∈ wsX50, w ∈ wsX5_passedByRooms := by decide +kernel
  have fl_9 := hts (.fieldLink RX5 9 "DoorDialect$Walk" "passed" "[I") (by decide +kernel)
  have fl_15 := hts (.fieldLink RX5 15 "DoorDialect$Walk" "queue" "[I") (by decide +kernel)
  obtain ⟨g_b, g_k, g_0, g_1, g_2, g_e, g_d, g_t, g_y, g_s, g_h⟩ := id hG
  have zq0 : G 0 = G 0 := rfl
  refine lv_iconst (v := nI 0) hx hb dX5_passedByRooms_0 (by decide) ?_
  refine lv_istore (lv' := [(4, .int (nI 0)), (0, .ref (w 0)), (1, .ref (ad 0)), (2, .int (nI a)), (3, .int (nI c))]) hx hb dX5_passedByRooms_1 hl (by decide) rfl (fun ls hl => ?_)
  have hloop1 : ∀ (nn : Nat) (k : Nat) (Z : Nat → Int32), (k ≤ 6) → (∀ j, j < k → Z j = -1) → 6 - k < nn → ∀ (H : Heap) (locs : List Loc), va_P D vwCl (wk cI w Z QA ++ hw cI cD ad u) H → va_S A s.heap H locs → ∀ (ls : Array Slot), lv_has ls 6 [(4, .int (nI k)), (0, .ref (w 0)), (1, .ref (ad 0)), (2, .int (nI a)), (3, .int (nI c))] → W p0 l e0 ({ frames := 2, cells := 0, slots := 0, locals := 48 }) s m0 args below meth c0 H locs 0 0 Q (F0 m0 3 ls []) := by
    intro nn3
    induction nn3 with
    | zero => intro k Z hk hZ hn0 _ _ _ _ _ _; exact absurd hn0 (Nat.not_lt_zero _)
    | succ nn3 ih3 =>
      intro k Z hk hZ hn3 H locs hP hS ls hl
      have hP : va_P D vwCl (wk cI w Z QA ++ hw cI cD ad u) H := hP
      refine lv_iload hx hb dX5_passedByRooms_3 (lv_at hl 0 rfl) ?_
      refine lv_bipush (v := nI 6) hx hb dX5_passedByRooms_5 (by decide) ?_
      refine nv_icmp_ge (tgt := 24) hx hb dX5_passedByRooms_7 (by decide) (by first | omega | (have := hV.1; omega)) (by first | omega | (have := hV.1; omega)) (fun c2 => ?_) (fun c2 => ?_)
      · have hP := va_P_arr hP 1 (fun _ => -1) rfl (fun j hj => hZ j (by omega))
        have hP : va_P D vwCl (wk cI w (fun _ => -1) QA ++ hw cI cD ad u) H := hP
        refine lv_aload_n hx hb dX5_passedByRooms_24 rfl (lv_at hl 1 rfl) ?_
        refine va_get (D := D) (ci := 7) (v := .ref (w 1)) (C := RX5) (T := TX5) (N := 2) hx hb hts in_X5 hown hK.1 hP 0 rfl rfl 0 (by decide) fl_9 (fun _ h9 => h9) rfl dX5_passedByRooms_25 ?_
        refine lv_iload_n hx hb dX5_passedByRooms_28 rfl (lv_at hl 3 rfl) ?_
        refine lv_iconst (v := nI 0) hx hb dX5_passedByRooms_29 (by decide) ?_
        refine nv_iast (i := a) hx hb hK.1 hP (hD _ _) hS 1 0 rfl rfl (by omega) (by decide) dX5_passedByRooms_30 (fun H locs hP hS => ?_)
        have hP : va_P D vwCl (wk cI w (upd (fun _ => -1) (a) (nI (0))) QA ++ hw cI cD ad u) H := hP
        refine lv_aload_n hx hb dX5_passedByRooms_31 rfl (lv_at hl 1 rfl) ?_
        refine va_get (D := D) (ci := 7) (v := .ref (w 2)) (C := RX5) (T := TX5) (N := 2) hx hb hts in_X5 hown hK.1 hP 0 rfl rfl 1 (by decide) fl_15 (fun _ h9 => h9) rfl dX5_passedByRooms_32 ?_
        refine lv_iconst (v := nI 0) hx hb dX5_passedByRooms_35 (by decide) ?_
        refine lv_iload_n hx hb dX5_passedByRooms_36 rfl (lv_at hl 3 rfl) ?_
        refine nv_gast (i := 0) (v := a) hx hb hK.1 hP (hD _ _) hS 2 0 rfl rfl (by omega) (by decide) dX5_passedByRooms_37 (fun H locs hP hS => ?_)
        have hP : va_P D vwCl (wk cI w (upd (fun _ => -1) (a) (nI (0))) (va_up QA (0) (a)) ++ hw cI cD ad u) H := hP
        refine lv_iconst (v := nI 1) hx hb dX5_passedByRooms_38 (by decide) ?_
        refine lv_istore (lv' := [(4, .int (nI 1)), (0, .ref (w 0)), (1, .ref (ad 0)), (2, .int (nI a)), (3, .int (nI c))]) hx hb dX5_passedByRooms_39 hl (by decide) rfl (fun ls hl => ?_)
        refine lv_iconst (v := nI 0) hx hb dX5_passedByRooms_41 (by decide) ?_
        refine lv_istore (lv' := [(5, .int (nI 0)), (4, .int (nI 1)), (0, .ref (w 0)), (1, .ref (ad 0)), (2, .int (nI a)), (3, .int (nI c))]) hx hb dX5_passedByRooms_42 hl (by decide) rfl (fun ls hl => ?_)
        have hloop3 : ∀ (nn : Nat) (t : Nat) (P1 : Nat → Int32) (Q1 : Nat → Nat) (n1 : Nat), (bV G a P1 Q1 n1 t) → 7 - t < nn → ∀ (H : Heap) (locs : List Loc), va_P D vwCl (wk cI w P1 Q1 ++ hw cI cD ad u) H → va_S A s.heap H locs → ∀ (ls : Array Slot), lv_has ls 6 [(5, .int (nI t)), (4, .int (nI n1)), (0, .ref (w 0)), (1, .ref (ad 0)), (2, .int (nI a)), (3, .int (nI c))] → W p0 l e0 ({ frames := 2, cells := 0, slots := 0, locals := 48 }) s m0 args below meth c0 H locs 0 0 Q (F0 m0 44 ls []) := by
          intro nn44
          induction nn44 with
          | zero => intro t P1 Q1 n1 hV hn0 _ _ _ _ _ _; exact absurd hn0 (Nat.not_lt_zero _)
          | succ nn44 ih44 =>
            intro t P1 Q1 n1 hV hn44 H locs hP hS ls hl
            have hP : va_P D vwCl (wk cI w P1 Q1 ++ hw cI cD ad u) H := hP
            refine lv_iload hx hb dX5_passedByRooms_44 (lv_at hl 0 rfl) ?_
            refine lv_iload hx hb dX5_passedByRooms_46 (lv_at hl 1 rfl) ?_
            refine nv_icmp_ge (tgt := 80) hx hb dX5_passedByRooms_48 (by decide) (by first | omega | (have := hV.1; omega)) (by first | omega | (have := hV.1; omega)) (fun c4 => ?_) (fun c4 => ?_)
            · refine lv_aload_n hx hb dX5_passedByRooms_80 rfl (lv_at hl 2 rfl) ?_
              refine va_get (D := D) (ci := 7) (v := .ref (w 1)) (C := RX5) (T := TX5) (N := 2) hx hb hts in_X5 hown hK.1 hP 0 rfl rfl 0 (by decide) fl_9 (fun _ h9 => h9) rfl dX5_passedByRooms_81 ?_
              refine lv_iload_n hx hb dX5_passedByRooms_84 rfl (lv_at hl 5 rfl) ?_
              refine nv_iald (i := c) hx hb hK.1 hP 1 0 rfl rfl (by omega) (by decide) dX5_passedByRooms_85 ?_
              exact nv_retG hq hx hb hr hlocks (nar_i _) (bV_end hG (n := n1) (by rw [show t = n1 from by have := hV.1; omega] at hV; exact hV) hc) hS (⟨_, _, hP⟩) dX5_passedByRooms_86
            · refine lv_iload hx hb dX5_passedByRooms_51 (lv_at hl 0 rfl) ?_
              refine lv_bipush (v := nI 6) hx hb dX5_passedByRooms_53 (by decide) ?_
              refine nv_icmp_ge (tgt := 80) hx hb dX5_passedByRooms_55 (by decide) (by first | omega | (have := hV.1; omega)) (by first | omega | (have := hV.1; omega)) (fun c5 => ?_) (fun c5 => ?_)
              · refine lv_aload_n hx hb dX5_passedByRooms_80 rfl (lv_at hl 2 rfl) ?_
                refine va_get (D := D) (ci := 7) (v := .ref (w 1)) (C := RX5) (T := TX5) (N := 2) hx hb hts in_X5 hown hK.1 hP 0 rfl rfl 0 (by decide) fl_9 (fun _ h9 => h9) rfl dX5_passedByRooms_81 ?_
                refine lv_iload_n hx hb dX5_passedByRooms_84 rfl (lv_at hl 5 rfl) ?_
                refine nv_iald (i := c) hx hb hK.1 hP 1 0 rfl rfl (by omega) (by decide) dX5_passedByRooms_85 ?_
                exact nv_retG hq hx hb hr hlocks (nar_i _) (bV_end hG (n := n1) (by rw [show t = n1 from by have := hV.1; omega] at hV; exact hV) hc) hS (⟨_, _, hP⟩) dX5_passedByRooms_86
              · refine lv_aload_n hx hb dX5_passedByRooms_58 rfl (lv_at hl 2 rfl) ?_
                refine lv_aload_n hx hb dX5_passedByRooms_59 rfl (lv_at hl 3 rfl) ?_
                refine lv_aload_n hx hb dX5_passedByRooms_60 rfl (lv_at hl 2 rfl) ?_
                refine va_get (D := D) (ci := 7) (v := .ref (w 2)) (C := RX5) (T := TX5) (N := 2) hx hb hts in_X5 hown hK.1 hP 0 rfl rfl 1 (by decide) fl_15 (fun _ h9 => h9) rfl dX5_passedByRooms_61 ?_
                refine lv_iload hx hb dX5_passedByRooms_64 (lv_at hl 0 rfl) ?_
                refine nv_gald (i := t) hx hb hK.1 hP 2 0 rfl rfl (by have := hV.1; omega) (by decide) dX5_passedByRooms_66 ?_
                refine lv_iload hx hb dX5_passedByRooms_67 (lv_at hl 1 rfl) ?_
                refine nv_kG (va_runV (As := [.ref (ad 0), .int (nI (Q1 (t))), .int (nI n1)]) (rest := []) ⟨hx, hb, hml, hown, hts⟩ (c_X5_queueBehind l hR hG hD (Q1 (t)) n1 (hV.2.1 t (by omega)).1 hV.1.1) (cwV 3 hts gX5_passedByRooms_X5_queueBehind rfl rfl rfl (by decide +kernel) ⟨Nat.le_of_ble_eq_true rfl, Nat.le_of_ble_eq_true rfl⟩) (nt_pV hT hS hP (va_recv hK.1 hP (ci := 7) (q0 := 0) rfl rfl)) rfl rfl hl.1 rfl (lv_room (Nat.le_of_ble_eq_true rfl)) dX5_passedByRooms_69 ⟨Nat.zero_le _, Nat.zero_le _⟩) hS (fun _ h9 => h9) (fun H locs hP1 hK1 hS => ?_)
                have hP : va_P D vwCl (wk cI w (qB G (Q1 t) (P1, Q1, n1) (G 0)).1 (qB G (Q1 t) (P1, Q1, n1) (G 0)).2.1 ++ hw cI cD ad u) H := hP1
                have hV9 := bV_N hG hV (by omega)
                refine lv_istore (lv' := [(4, .int (nI ((qB G (Q1 (t)) (P1, Q1, n1) (G 0)).2.2))), (5, .int (nI t)), (0, .ref (w 0)), (1, .ref (ad 0)), (2, .int (nI a)), (3, .int (nI c))]) hx hb dX5_passedByRooms_72 hl (by decide) rfl (fun ls hl => ?_)
                refine lv_iinc (v := nI (t + 1)) (lv' := [(5, .int (nI (t + 1))), (4, .int (nI ((qB G (Q1 (t)) (P1, Q1, n1) (G 0)).2.2))), (0, .ref (w 0)), (1, .ref (ad 0)), (2, .int (nI a)), (3, .int (nI c))]) hx hb dX5_passedByRooms_74 hl (k := 1) rfl (by show nI _ + Int32.ofInt 1 = _; exact nI_add _ 1) (by decide) rfl (fun ls hl => ?_)
                refine lv_goto (tgt := 44) hx hb dX5_passedByRooms_77 (by decide) ?_
                exact ih44  (t + 1) ((qB G (Q1 t) (P1, Q1, n1) (G 0)).1) ((qB G (Q1 t) (P1, Q1, n1) (G 0)).2.1) ((qB G (Q1 (t)) (P1, Q1, n1) (G 0)).2.2) (hV9) (by have := hV.1; omega) _ _ hP hS ls (lv_sub hl [0, 1, 2, 3, 4, 5] rfl)
        exact hloop3 _ 0 ((upd (fun _ => -1) (a) (nI (0)))) ((va_up QA (0) (a))) 1 ((bV_0 ha QA)) (Nat.lt_succ_self _) _ _ hP hS ls (lv_sub hl [0, 1, 2, 3, 4, 5] rfl)
      · refine lv_aload_n hx hb dX5_passedByRooms_10 rfl (lv_at hl 1 rfl) ?_
        refine va_get (D := D) (ci := 7) (v := .ref (w 1)) (C := RX5) (T := TX5) (N := 2) hx hb hts in_X5 hown hK.1 hP 0 rfl rfl 0 (by decide) fl_9 (fun _ h9 => h9) rfl dX5_passedByRooms_11 ?_
        refine lv_iload hx hb dX5_passedByRooms_14 (lv_at hl 0 rfl) ?_
        refine lv_iconst (v := (-1)) hx hb dX5_passedByRooms_16 (by decide) ?_
        refine nv_iast (i := k) hx hb hK.1 hP (hD _ _) hS 1 0 rfl rfl (by omega) (by decide) dX5_passedByRooms_17 (fun H locs hP hS => ?_)
        have hP : va_P D vwCl (wk cI w (upd Z (k) ((-1))) QA ++ hw cI cD ad u) H := hP
        refine lv_iinc (v := nI (k + 1)) (lv' := [(4, .int (nI (k + 1))), (0, .ref (w 0)), (1, .ref (ad 0)), (2, .int (nI a)), (3, .int (nI c))]) hx hb dX5_passedByRooms_18 hl (k := 0) rfl (by show nI _ + Int32.ofInt 1 = _; exact nI_add _ 1) (by decide) rfl (fun ls hl => ?_)
        refine lv_goto (tgt := 3) hx hb dX5_passedByRooms_21 (by decide) ?_
        exact ih3  (k + 1) ((upd Z (k) ((-1)))) ((by omega)) ((fun j hj => by rcases (show j < k ∨ j = k by omega) with h | h; exact (upd_ne _ _ (by omega)).trans (hZ j h); subst h; exact upd_at _ _ _)) (by omega) _ _ hP hS ls (lv_sub hl [0, 1, 2, 3, 4] rfl)
  exact hloop1 _ 0 PA ((Nat.zero_le _)) ((fun j hj => absurd hj (Nat.not_lt_zero j))) (Nat.lt_succ_self _) _ _ hP hS ls (lv_sub hl [0, 1, 2, 3, 4] rfl)
