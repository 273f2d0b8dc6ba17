set_option maxHeartbeats 1000000 in
set_option maxRecDepth 100000 in
theorem c_S_checkLength (l : Launch) {D : va_G} {cI cC cD cR cB : ClassId} {sa : sA} {A : Nat → Prop} (n : Nat) (hn : n < 1000) : Met l yJ7_checkLength_df160 wsJ7_checkLength_df160 ({ frames := 0, cells := 0, slots := 0, locals := 0 }) (va_Pc [.int (nI 0), .int (nI n)] (sPx D [(cI, .int), (cC, .char), (cD, .object "DoorDialect$Door"), (cR, .object "DoorDialect$House")] nN sa A cB (fun _ => True) [])) (sQv) 0 0 (fun _ => False) := by
  refine nv_met (cc := cJ7_checkLength_df160) (maxL := 2) (ret := none) (by decide) rfl (Nat.le_of_ble_eq_true rfl) ?_
  intro p0 e0 s m0 args below meth c0 Q hq hargs hnA hpre ls hl
  obtain ⟨hx, hb, hr, hts, hown, hlocks, hml⟩ := hnA
  obtain ⟨hP, hT, hBk, hX⟩ := hpre
  have hown : s.vm.findClass RJ7 = some m0.cls := hown
  have hl : lv_has ls 2 [(0, .int (nI 0)), (1, .int (nI n))] := hl
  have hS : va_S A s.heap s.heap [] := va_S.rf
  refine lv_iload_n hx hb dJ7_checkLength_df160_0 rfl (lv_at hl 1 rfl) ?_
  refine lv_iload_n hx hb dJ7_checkLength_df160_1 rfl (lv_at hl 0 rfl) ?_
  refine nv_icmp_ge (tgt := 37) hx hb dJ7_checkLength_df160_2 (by decide) (by omega) (by omega) (fun c1 => ?_) (fun c1 => absurd (Nat.zero_le _) c1)
  exact nv_retSv hq hx hb hr hlocks dJ7_checkLength_df160_37
set_option maxHeartbeats 1000000 in
set_option maxRecDepth 100000 in
theorem c_S_copyRB (l : Launch) {D : va_G} {cI cC cD cR cB : ClassId} {sa : sA} {b m n1 : Nat} {F : Nat → Nat} (n : Nat) (hnm : n ≤ m) (hm9 : m ≤ 150) (hn9 : n ≤ 60) (hF9 : ∀ j, F j < 128) : Met l yJ7_copyOfRangeByte_39247 wsJ7_copyOfRangeByte_39247 ({ frames := 1, cells := 1, slots := 60, locals := 80 }) (va_Pc [.ref b, .int (nI 0), .int (nI n)] (sPx D [(cI, .int), (cC, .char), (cD, .object "DoorDialect$Door"), (cR, .object "DoorDialect$House")] nN sa (bN b n1) cB (fun H => n1 ≤ H.size ∧ va_P D vwCl [(b, .inl (cB, m, .inl (gN F)))] H) [])) (gQn (fun r H => (∃ F2 : Nat → Nat, va_P D vwCl [(r, .inl (cB, n, .inl (gN F2)))] H ∧ ∀ j, j < n → F2 j = F j) ∧ r ≠ b ∧ n1 ≤ r) (bN b n1)) 1 60 (bN b n1) := by
  refine nv_met (cc := cJ7_copyOfRangeByte_39247) (maxL := 5) (ret := (some (.array .byte))) (by decide) rfl (Nat.le_of_ble_eq_true rfl) ?_
  intro p0 e0 s m0 args below meth c0 Q hq hargs hnA hpre ls hl
  obtain ⟨hx, hb, hr, hts, hown, hlocks, hml⟩ := hnA
  obtain ⟨hP, hT, hBk, hX⟩ := hpre
  have hown : s.vm.findClass RJ7 = some m0.cls := hown
  have hl : lv_has ls 5 [(0, .ref b), (1, .int (nI 0)), (2, .int (nI n))] := hl
  have hS : va_S (bN b n1) s.heap s.heap [] := va_S.rf
  have hn1 : n1 ≤ s.heap.size := hP.1
  have hA : ∀ q : Nat, s.heap.size ≤ q → bN b n1 q := fun q hq => Or.inr (Nat.le_trans hn1 hq)
  have hP : va_P D vwCl [(b, .inl (cB, m, .inl (gN F)))] s.heap := hP.2
  have hD : va_D (bN b n1) [(b, .inl (cB, m, .inl (gN F)))] := va_D1 (Or.inl rfl)
  refine lv_iload_n hx hb dJ7_copyOfRangeByte_39247_0 rfl (lv_at hl 1 rfl) ?_
  refine lv_iload_n hx hb dJ7_copyOfRangeByte_39247_1 rfl (lv_at hl 2 rfl) ?_
  refine nv_kSv (va_runS (As := [.int (nI 0), .int (nI n)]) (rest := []) ⟨hx, hb, hml, hown, hts⟩ (c_S_checkLength l (A := bN b n1) n (by omega)) (va_cwS 2 hts gJ7_copyOfRangeByte_39247_J7_checkLength_df160 rfl rfl rfl (by decide +kernel) ⟨Nat.le_of_ble_eq_true rfl, Nat.le_of_ble_eq_true rfl⟩) (nx_pS hT hBk tx0 hS (fun q h => h) trivial) rfl rfl hl.1 rfl (lv_room (Nat.le_of_ble_eq_true rfl)) dJ7_copyOfRangeByte_39247_2 ⟨Nat.le_of_ble_eq_true rfl, Nat.le_of_ble_eq_true rfl⟩) ?_
  refine lv_iload_n hx hb dJ7_copyOfRangeByte_39247_5 rfl (lv_at hl 2 rfl) ?_
  refine lv_iload_n hx hb dJ7_copyOfRangeByte_39247_6 rfl (lv_at hl 1 rfl) ?_
  refine nv_isub hx hb dJ7_copyOfRangeByte_39247_7 (by omega) ?_
  refine nv_to n rfl ?_
  refine lv_istore_n (lv' := [(3, .int (nI n)), (0, .ref b), (1, .int (nI 0)), (2, .int (nI n))]) hx hb dJ7_copyOfRangeByte_39247_8 rfl hl (by decide) rfl (fun ls hl => ?_)
  refine lv_iload_n hx hb dJ7_copyOfRangeByte_39247_9 rfl (lv_at hl 0 rfl) ?_
  refine nv_newa (atype := .byte) (ty := .byte) (n := n) (a0 := (n, .inl (gN (fun _ => 0)))) hx hb (hts (.arrayClass .byte) (by decide +kernel)) rfl hBk.1 hP hD hS hA 0 rfl (fun _ => rfl) (by omega) (by show (n) * 1 ≤ 536870912; omega) (by first | exact Nat.le_of_ble_eq_true rfl | (simp only []; omega)) (by show 0 + n ≤ 60; omega) dJ7_copyOfRangeByte_39247_10 (fun r H hP hD hS => ?_)
  have hP : va_P D vwCl [(b, .inl (cB, m, .inl (gN F))), (r, .inl (cB, n, .inl (gN (fun _ => 0))))] H := hP
  have hD : va_D _ [(b, .inl (cB, m, .inl (gN F))), (r, .inl (cB, n, .inl (gN (fun _ => 0))))] := hD
  refine lv_astore (lv' := [(4, .ref r), (3, .int (nI n)), (0, .ref b), (1, .int (nI 0)), (2, .int (nI n))]) hx hb dJ7_copyOfRangeByte_39247_12 hl (by decide) rfl (fun ls hl => ?_)
  refine lv_aload_n hx hb dJ7_copyOfRangeByte_39247_14 rfl (lv_at hl 2 rfl) ?_
  refine lv_iload_n hx hb dJ7_copyOfRangeByte_39247_15 rfl (lv_at hl 3 rfl) ?_
  refine lv_aload hx hb dJ7_copyOfRangeByte_39247_16 (lv_at hl 0 rfl) ?_
  refine lv_iconst (v := nI 0) hx hb dJ7_copyOfRangeByte_39247_18 (by decide) ?_
  refine lv_aload_n hx hb dJ7_copyOfRangeByte_39247_19 rfl (lv_at hl 2 rfl) ?_
  refine va_alen (v := nI m) hx hb hBk.1 hP 0 0 (ty := .byte) rfl rfl rfl dJ7_copyOfRangeByte_39247_20 ?_
  refine lv_iload_n hx hb dJ7_copyOfRangeByte_39247_21 rfl (lv_at hl 3 rfl) ?_
  refine nv_isub hx hb dJ7_copyOfRangeByte_39247_22 (by omega) ?_
  refine nv_to m rfl ?_
  refine lv_iload_n hx hb dJ7_copyOfRangeByte_39247_23 rfl (lv_at hl 1 rfl) ?_
  refine nv_mmin hx hb (hml.trans hl.1.symm) hown (hts (.methodLink RJ7 304 Lib.Math.min.name) (by decide +kernel)) (hts (.static Lib.Math.min.name) (by decide +kernel)) (hts (.initialized "java/lang/Math") (by decide +kernel)) (hts (.code Lib.Math.min.name Lib.Math.min.code 2 (some .int)) (by decide +kernel)) (Nat.le_of_ble_eq_true rfl) (Nat.le_of_ble_eq_true rfl) (by first | exact Nat.zero_le _ | exact Nat.le_of_ble_eq_true rfl) (by first | exact Nat.zero_le _ | (show _ ≤ (150 : Nat); omega) | (show _ ≤ (60 : Nat); omega)) (by omega) (by omega) dJ7_copyOfRangeByte_39247_24 ?_
  have h0c : (nI 0).toNatClampNeg = 0 := nI_clamp (by decide)
  have hlc : (nI (min m n)).toNatClampNeg = (min m n) := nI_clamp (by omega)
  refine va_copyi (f := gN F) (g := gN (fun _ => 0)) hx hb (hml.trans hl.1.symm) hown (hts (.methodLink RJ7 150 arraycopyName) (by decide +kernel)) (hts (.native arraycopyName) (by decide +kernel)) (hts (.static arraycopyName) (by decide +kernel)) (hts (.initialized "java/lang/System") (by decide +kernel)) hBk.1 hP hD hS 0 1 0 0 rfl rfl rfl rfl rfl (by decide) (by decide) (nI_pos (by omega)) (by rw [h0c, hlc]; omega) (by rw [h0c, hlc]; omega) (fun i _ => fit_byte (hF9 _)) (Nat.le_of_ble_eq_true rfl) (Nat.le_of_ble_eq_true rfl) dJ7_copyOfRangeByte_39247_27 (fun H locs hP hD hS => ?_)
  rw [h0c, hlc, ← gN_cpy] at hP
  have hP : va_P D vwCl [(b, .inl (cB, m, .inl (gN F))), (r, .inl (cB, n, .inl (gN (va_cpy F (fun _ => 0) 0 0 (min m n)))))] H := hP
  have hD : va_D _ [(b, .inl (cB, m, .inl (gN F))), (r, .inl (cB, n, .inl (gN (va_cpy F (fun _ => 0) 0 0 (min m n)))))] := nd_same hD rfl
  refine lv_aload hx hb dJ7_copyOfRangeByte_39247_30 (lv_at hl 0 rfl) ?_
  have hrb : r ≠ b := fun e => absurd (hD.1 0 1 _ _ rfl rfl e.symm) (by decide)
  have hrn : n1 ≤ r := (hD.2 1 _ rfl).resolve_left hrb
  exact nv_retGn hq hx hb hr (Or.inr ⟨_, rfl⟩) hlocks (Nat.le_of_ble_eq_true rfl) (by omega) hS ⟨⟨_, hP.sub [1] rfl, fun j hj => by unfold va_cpy; rw [if_pos (by omega)]; congr 1; omega⟩, hrb, hrn⟩ dJ7_copyOfRangeByte_39247_32
set_option maxHeartbeats 1000000 in
set_option maxRecDepth 100000 in
theorem c_S_copyR (l : Launch) {D : va_G} {cI cC cD cR cB : ClassId} {sa : sA} {b m n1 : Nat} {F : Nat → Nat} (n : Nat) (hnm : n ≤ m) (hm9 : m ≤ 150) (hn9 : n ≤ 60) (hF9 : ∀ j, F j < 128) : Met l yJ7_copyOfRange_39247 wsJ7_copyOfRange_39247 ({ frames := 2, cells := 1, slots := 60, locals := 104 }) (va_Pc [.ref b, .int (nI 0), .int (nI n)] (sPx D [(cI, .int), (cC, .char), (cD, .object "DoorDialect$Door"), (cR, .object "DoorDialect$House")] nN sa (bN b n1) cB (fun H => n1 ≤ H.size ∧ va_P D vwCl [(b, .inl (cB, m, .inl (gN F)))] H) [])) (gQn (fun r H => (∃ F2 : Nat → Nat, va_P D vwCl [(r, .inl (cB, n, .inl (gN F2)))] H ∧ ∀ j, j < n → F2 j = F j) ∧ r ≠ b ∧ n1 ≤ r) (bN b n1)) 1 60 (bN b n1) := by
  refine nv_met (cc := cJ7_copyOfRange_39247) (maxL := 3) (ret := (some (.array .byte))) (by decide) rfl (Nat.le_of_ble_eq_true rfl) ?_
  intro p0 e0 s m0 args below meth c0 Q hq hargs hnA hpre ls hl
  obtain ⟨hx, hb, hr, hts, hown, hlocks, hml⟩ := hnA
  obtain ⟨hP, hT, hBk, hX⟩ := hpre
  have hown : s.vm.findClass RJ7 = some m0.cls := hown
  have hl : lv_has ls 3 [(0, .ref b), (1, .int (nI 0)), (2, .int (nI n))] := hl
  have hS : va_S (bN b n1) s.heap s.heap [] := va_S.rf
  have hn1 : n1 ≤ s.heap.size := hP.1
  have hA : ∀ q : Nat, s.heap.size ≤ q → bN b n1 q := fun q hq => Or.inr (Nat.le_trans hn1 hq)
  have hP : va_P D vwCl [(b, .inl (cB, m, .inl (gN F)))] s.heap := hP.2
  have hD : va_D (bN b n1) [(b, .inl (cB, m, .inl (gN F)))] := va_D1 (Or.inl rfl)
  refine lv_iload_n hx hb dJ7_copyOfRange_39247_0 rfl (lv_at hl 1 rfl) ?_
  refine nv_if_ne (tgt := 10) hx hb dJ7_copyOfRange_39247_1 (by decide) (by omega) (fun c1 => absurd rfl c1) (fun c1 => ?_)
  refine lv_iload_n hx hb dJ7_copyOfRange_39247_4 rfl (lv_at hl 2 rfl) ?_
  refine lv_aload_n hx hb dJ7_copyOfRange_39247_5 rfl (lv_at hl 0 rfl) ?_
  refine va_alen (v := nI m) hx hb hBk.1 hP 0 0 (ty := .byte) rfl rfl rfl dJ7_copyOfRange_39247_6 ?_
  refine nv_icmp_eq (tgt := 17) hx hb dJ7_copyOfRange_39247_7 (by decide) (by omega) (by omega) (fun c2 => ?_) (fun c2 => ?_)
  · have c7 := c2
    refine lv_aload_n hx hb dJ7_copyOfRange_39247_17 rfl (lv_at hl 0 rfl) ?_
    refine va_clone (x := (m, .inl (gN F))) hx hb (hml.trans hl.1.symm) hown (hts (.methodLink RJ7 310 ⟨"[B", "clone", "()Ljava/lang/Object;"⟩) (by decide +kernel)) (hts (.sameMethod "[B" "java/lang/Object" "clone" "()Ljava/lang/Object;") (by decide +kernel)) (hts (.native ⟨"java/lang/Object", "clone", "()Ljava/lang/Object;"⟩) (by decide +kernel)) (hts (.instanceMethod ⟨"java/lang/Object", "clone", "()Ljava/lang/Object;"⟩) (by decide +kernel)) (hts (.selects "[B" ⟨"[B", "clone", "()Ljava/lang/Object;"⟩ ⟨"java/lang/Object", "clone", "()Ljava/lang/Object;"⟩) (by decide +kernel)) hBk.2 hBk.1 hP hD hS hA 0 0 rfl rfl hBk.nm (fit_arr hF9) (Nat.le_of_ble_eq_true rfl) (Nat.le_of_ble_eq_true rfl) (Nat.le_of_ble_eq_true rfl) (by show 0 + m ≤ 60; omega) dJ7_copyOfRange_39247_18 (fun r H _ hP hD hS => ?_)
    have hP : va_P D vwCl [(b, .inl (cB, m, .inl (gN F))), (r, .inl (cB, m, .inl (gN F)))] H := hP
    have hD : va_D _ [(b, .inl (cB, m, .inl (gN F))), (r, .inl (cB, m, .inl (gN F)))] := hD
    refine va_castA hx hb hown (hts (.classLink RJ7 311 "[B") (by decide +kernel)) hP 1 rfl hBk.nm dJ7_copyOfRange_39247_21 ?_
    have hrb : r ≠ b := fun e => absurd (hD.1 0 1 _ _ rfl rfl e.symm) (by decide)
    have hrn : n1 ≤ r := (hD.2 1 _ rfl).resolve_left hrb
    exact nv_retGn hq hx hb hr (Or.inr ⟨_, rfl⟩) hlocks (Nat.le_of_ble_eq_true rfl) (by show 0 + m ≤ 60; omega) hS ⟨⟨F, by subst c7; exact hP.sub [1] rfl, fun j _ => rfl⟩, hrb, hrn⟩ dJ7_copyOfRange_39247_24
  · skip
    refine lv_aload_n hx hb dJ7_copyOfRange_39247_10 rfl (lv_at hl 0 rfl) ?_
    refine lv_iload_n hx hb dJ7_copyOfRange_39247_11 rfl (lv_at hl 1 rfl) ?_
    refine lv_iload_n hx hb dJ7_copyOfRange_39247_12 rfl (lv_at hl 2 rfl) ?_
    refine nv_kGn (va_runS (As := [.ref b, .int (nI 0), .int (nI n)]) (rest := []) ⟨hx, hb, hml, hown, hts⟩ (c_S_copyRB l (n1 := n1) n hnm hm9 hn9 hF9) (va_cwS 3 hts gJ7_copyOfRange_39247_J7_copyOfRangeByte_39247 rfl rfl rfl (by decide +kernel) ⟨Nat.le_of_ble_eq_true rfl, Nat.le_of_ble_eq_true rfl⟩) (nx_pS hT hBk tx0 hS (fun q h => h) ⟨Nat.le_trans hn1 hS.1, hP⟩) rfl rfl hl.1 rfl (lv_room (Nat.le_of_ble_eq_true rfl)) dJ7_copyOfRange_39247_13 ⟨Nat.le_of_ble_eq_true rfl, Nat.le_of_ble_eq_true rfl⟩) hS (fun q h => h) (fun r H locs hPn hK hS => ?_)
    exact nv_retGn hq hx hb hr (Or.inr ⟨_, rfl⟩) hlocks (Nat.le_of_ble_eq_true rfl) (Nat.le_of_ble_eq_true rfl) hS hPn dJ7_copyOfRange_39247_16
set_option maxHeartbeats 1000000 in
set_option maxRecDepth 100000 in
theorem c_T_initA (l : Launch) {D : va_G} {cI cC cD cR cB : ClassId} {sa : sA} {n0 h a b m n : Nat} {F : Nat → Nat} (hnm : n ≤ m) (hm9 : m ≤ 150) (hn9 : n ≤ 60) (hF9 : ∀ j, F j < 128) (hD : va_D (aN n0) [(h, .inr (0, [.null, .int (nI 0), .int (nI 0), .int (nI 0)])), (a, .inr (9, [.ref b, .int (nI 0), .int (nI 0), .int (nI n)])), (b, .inl (cB, m, .inl (gN F)))]) : Met l yJ0_init_db425 wsJ0_init_db425 ({ frames := 3, cells := 1, slots := 60, locals := 126 }) (va_Pc [.ref h, .ref a, .null] (sPx D [(cI, .int), (cC, .char), (cD, .object "DoorDialect$Door"), (cR, .object "DoorDialect$House")] nN sa (aN n0) cB (fun H => va_P D vwCl [(h, .inr (0, [.null, .int (nI 0), .int (nI 0), .int (nI 0)])), (a, .inr (9, [.ref b, .int (nI 0), .int (nI 0), .int (nI n)])), (b, .inl (cB, m, .inl (gN F)))] H) [])) (gQv (fun H => ∃ (v : Nat) (F2 : Nat → Nat), va_P D vwCl [(h, .inr (0, [.ref v, .int (nI 0), .int (nI 0), .int (nI 0)])), (v, .inl (cB, n, .inl (gN F2)))] H ∧ n0 ≤ v ∧ ∀ j, j < n → F2 j = F j) (aN n0)) 1 60 (aN n0) := by
  refine nv_metN (cc := cJ0_init_db425) (maxL := 5) (ret := none) (by decide) rfl (Nat.le_of_ble_eq_true rfl) ?_
  intro p0 e0 s m0 args below meth c0 Q hq hargs hin hnA hpre ls hl
  obtain ⟨hx, hb, hr, hts, hown, hlocks, hml⟩ := hnA
  obtain ⟨hP, hT, hBk, hX⟩ := hpre
  have hown : s.vm.findClass RJ0 = some m0.cls := hown
  have hl : lv_has ls 5 [(0, .ref h), (1, .ref a), (2, .null)] := hl
  have hS : va_S (aN n0) s.heap s.heap [] := va_S.rf
  have hP : va_P D vwCl [(h, .inr (0, [.null, .int (nI 0), .int (nI 0), .int (nI 0)])), (a, .inr (9, [.ref b, .int (nI 0), .int (nI 0), .int (nI n)])), (b, .inl (cB, m, .inl (gN F)))] s.heap := hP
  have in_J0 : ∀ w ∈ wsJ00, w ∈ wsJ0_init_db425 := by decide +kernel
  have fl_9 := hts (.fieldLink RJ0 9 "java/lang/String" "value" "[B") (by decide +kernel)
  have fl_15 := hts (.fieldLink RJ0 15 "java/lang/String" "coder" "B") (by decide +kernel)
  have hh9 : h < s.heap.size := vx_lt hP (k := 0) rfl
  have hns : n0 ≤ s.heap.size := Nat.le_trans (hD.2 0 _ rfl) (Nat.le_of_lt hh9)
  have hhb : h ≠ b := fun e => absurd (hD.1 0 2 _ _ rfl rfl e) (by decide)
  refine lv_aload_n hx hb dJ0_init_db425_0 rfl (lv_at hl 0 rfl) ?_
  refine W.objInit hx hb hown (hts (.methodLink RJ0 1 objectInit) (by decide +kernel)) (hts (.instanceMethod objectInit) (by decide +kernel)) (hts (.code objectInit ⟨#[0xb1]⟩ 1 none) (by decide +kernel)) rfl (by rw [hml]; exact hl.1) rfl dJ0_init_db425_1 (Nat.le_of_ble_eq_true rfl) (Nat.le_of_ble_eq_true rfl) ?_
  refine W.eq (g2 := F0 m0 4 ls []) rfl ?_
  refine lv_aload_n hx hb dJ0_init_db425_4 rfl (lv_at hl 1 rfl) ?_
  refine nv_kGr2 (va_runU (As := []) (rest := []) ⟨hx, hb, hml, hown, hts⟩ (c_S_getValue l (A := fun _ => False)) (va_cwU 0 hts gJ0_init_db425_J5_getValue_6d5f1_u552J4 rfl rfl rfl rfl (by decide +kernel) ⟨Nat.le_of_ble_eq_true rfl, Nat.le_of_ble_eq_true rfl⟩) (nx_pV hT hBk tx0 hS (fun q h => h.elim) (hP.sub [1, 2] rfl) (va_recv hBk.1 hP (ci := 9) (q0 := 1) rfl rfl)) rfl rfl hl.1 rfl (lv_room (Nat.le_of_ble_eq_true rfl)) dJ0_init_db425_5 ⟨Nat.le_of_ble_eq_true rfl, Nat.le_of_ble_eq_true rfl⟩) hS (fun q h => h.elim) (fun H locs hPn hK hS => ?_)
  have hP : va_P D vwCl [(h, .inr (0, [.null, .int (nI 0), .int (nI 0), .int (nI 0)])), (a, .inr (9, [.ref b, .int (nI 0), .int (nI 0), .int (nI n)])), (b, .inl (cB, m, .inl (gN F)))] H := hP.kept (fun k q hk => hK q.1 (vx_lt hP hk) (fun h => h))
  refine lv_astore_n (lv' := [(3, .ref b), (0, .ref h), (1, .ref a), (2, .null)]) hx hb dJ0_init_db425_8 rfl hl (by decide) rfl (fun ls hl => ?_)
  refine lv_aload_n hx hb dJ0_init_db425_9 rfl (lv_at hl 2 rfl) ?_
  refine nv_kS (va_runU (As := []) (rest := []) ⟨hx, hb, hml, hown, hts⟩ (c_S_length4 l (A := aN n0)) (va_cwO 0 hts gJ0_init_db425_J4_length_8abf5_u549J4 rfl rfl rfl (b0 := cJ5_length_8abf5) (m0 := 1) (r0 := some .int) (by decide +kernel) (by decide +kernel) ⟨Nat.le_of_ble_eq_true rfl, Nat.le_of_ble_eq_true rfl⟩) (nx_pV hT hBk tx0 hS (fun q h => h) (hP.sub [1, 2] rfl) (va_recv hBk.1 hP (ci := 9) (q0 := 1) rfl rfl)) rfl rfl hl.1 rfl (lv_room (Nat.le_of_ble_eq_true rfl)) dJ0_init_db425_10 ⟨Nat.le_of_ble_eq_true rfl, Nat.le_of_ble_eq_true rfl⟩) ?_
  refine lv_istore (lv' := [(4, .int (nI n)), (3, .ref b), (0, .ref h), (1, .ref a), (2, .null)]) hx hb dJ0_init_db425_13 hl (by decide) rfl (fun ls hl => ?_)
  refine lv_aload_n hx hb dJ0_init_db425_15 rfl (lv_at hl 3 rfl) ?_
  refine nv_kS (va_runU (As := []) (rest := []) ⟨hx, hb, hml, hown, hts⟩ (c_S_isLatin1 l (A := aN n0)) (va_cwU 0 hts gJ0_init_db425_J5_isLatin1_aae02_u1047J4 rfl rfl rfl rfl (by decide +kernel) ⟨Nat.le_of_ble_eq_true rfl, Nat.le_of_ble_eq_true rfl⟩) (nx_pV hT hBk tx0 hS (fun q h => h) (hP.sub [1, 2] rfl) (va_recv hBk.1 hP (ci := 9) (q0 := 1) rfl rfl)) rfl rfl hl.1 rfl (lv_room (Nat.le_of_ble_eq_true rfl)) dJ0_init_db425_16 ⟨Nat.le_of_ble_eq_true rfl, Nat.le_of_ble_eq_true rfl⟩) ?_
  refine nv_if_eq (tgt := 41) hx hb dJ0_init_db425_19 (by decide) (by omega) (fun c1 => absurd c1 (by decide)) (fun c1 => ?_)
  refine lv_aload_n hx hb dJ0_init_db425_22 rfl (lv_at hl 2 rfl) ?_
  refine lv_iconst (v := nI 0) hx hb dJ0_init_db425_23 (by decide) ?_
  refine va_putF (D := D) (ci := 0) (v := .int (nI 0)) (ty := .byte) (C := RJ0) (T := TJ0) (N := 4) hx hb hts in_J0 tyJ0 tyJ0_ok nmJ0 hown hBk.1 hP hD hS 0 rfl rfl 1 (by decide) fl_15 (fun _ h9 => h9) rfl hin rfl (by decide +kernel) rfl rfl (Nat.le_of_ble_eq_true rfl) dJ0_init_db425_24 (fun H locs hP hD hS => ?_)
  have hP : va_P D vwCl [(h, .inr (0, [.null, .int (nI 0), .int (nI 0), .int (nI 0)])), (a, .inr (9, [.ref b, .int (nI 0), .int (nI 0), .int (nI n)])), (b, .inl (cB, m, .inl (gN F)))] H := hP
  have hD : va_D _ [(h, .inr (0, [.null, .int (nI 0), .int (nI 0), .int (nI 0)])), (a, .inr (9, [.ref b, .int (nI 0), .int (nI 0), .int (nI n)])), (b, .inl (cB, m, .inl (gN F)))] := hD
  refine lv_aload_n hx hb dJ0_init_db425_27 rfl (lv_at hl 2 rfl) ?_
  refine lv_aload_n hx hb dJ0_init_db425_28 rfl (lv_at hl 1 rfl) ?_
  refine lv_iconst (v := nI 0) hx hb dJ0_init_db425_29 (by decide) ?_
  refine lv_iload hx hb dJ0_init_db425_30 (lv_at hl 0 rfl) ?_
  have hPh0 : va_P D vwCl [(h, .inr (0, [.null, .int (nI 0), .int (nI 0), .int (nI 0)]))] H := hP.sub [0] rfl
  have hSz := hS.1
  refine nv_kGn (va_runS (As := [.ref b, .int (nI 0), .int (nI n)]) (rest := [.ref h]) ⟨hx, hb, hml, hown, hts⟩ (c_S_copyR l (n1 := s.heap.size) n hnm hm9 hn9 hF9) (va_cwS 3 hts gJ0_init_db425_J7_copyOfRange_39247 rfl rfl rfl (by decide +kernel) ⟨Nat.le_of_ble_eq_true rfl, Nat.le_of_ble_eq_true rfl⟩) (nx_pS hT hBk tx0 hS (fun q h => h.elim (fun e => by rw [e]; exact hD.2 2 _ rfl) (fun h => Nat.le_trans hns h)) ⟨hS.1, hP.sub [2] rfl⟩) rfl rfl hl.1 rfl (lv_room (Nat.le_of_ble_eq_true rfl)) dJ0_init_db425_32 ⟨Nat.le_of_ble_eq_true rfl, Nat.le_of_ble_eq_true rfl⟩) hS (fun q h => h.elim (fun e => by rw [e]; exact hD.2 2 _ rfl) (fun h => Nat.le_trans hns h)) (fun v H locs hPn hK hS => ?_)
  obtain ⟨⟨F2, hPv, hF2⟩, hvb, hvn⟩ := hPn
  have hPh : va_P D vwCl [(h, .inr (0, [.null, .int (nI 0), .int (nI 0), .int (nI 0)]))] H := va_P1 hPh0 (hK h (Nat.lt_of_lt_of_le hh9 hSz) (fun q => q.elim hhb (fun q => absurd hh9 (Nat.not_lt.mpr q))))
  have hP : va_P D vwCl [(h, .inr (0, [.null, .int (nI 0), .int (nI 0), .int (nI 0)])), (v, .inl (cB, n, .inl (gN F2)))] H := hPh.app hPv
  have hv0 : n0 ≤ v := Nat.le_trans hns hvn
  have hD : va_D (aN n0) [(h, .inr (0, [.null, .int (nI 0), .int (nI 0), .int (nI 0)])), (v, .inl (cB, n, .inl (gN F2)))] := va_D2 (fun e => by rw [e] at hh9; exact absurd hh9 (Nat.not_lt.mpr hvn)) (hD.2 0 _ rfl) hv0
  refine va_putF (D := D) (ci := 0) (v := .ref v) (ty := (.array .byte)) (C := RJ0) (T := TJ0) (N := 4) hx hb hts in_J0 tyJ0 tyJ0_ok nmJ0 hown hBk.1 hP hD hS 0 rfl rfl 0 (by decide) fl_9 (fun _ h9 => h9) rfl hin rfl (by decide +kernel) rfl rfl (Nat.le_of_ble_eq_true rfl) dJ0_init_db425_35 (fun H locs hP hD hS => ?_)
  have hP : va_P D vwCl [(h, .inr (0, [.ref v, .int (nI 0), .int (nI 0), .int (nI 0)])), (v, .inl (cB, n, .inl (gN F2)))] H := hP
  have hD : va_D _ [(h, .inr (0, [.ref v, .int (nI 0), .int (nI 0), .int (nI 0)])), (v, .inl (cB, n, .inl (gN F2)))] := hD
  refine lv_goto (tgt := 97) hx hb dJ0_init_db425_38 (by decide) ?_
  exact nv_retGv2 hq hx hb hr hlocks (Nat.le_of_ble_eq_true rfl) (Nat.le_of_ble_eq_true rfl) hS ⟨v, F2, hP, hv0, hF2⟩ dJ0_init_db425_97
set_option maxHeartbeats 1000000 in
set_option maxRecDepth 100000 in
theorem c_T_initB (l : Launch) {D : va_G} {cI cC cD cR cB : ClassId} {sa : sA} {n0 h a b m n : Nat} {F : Nat → Nat} (hnm : n ≤ m) (hm9 : m ≤ 150) (hn9 : n ≤ 60) (hF9 : ∀ j, F j < 128) (hD : va_D (aN n0) [(h, .inr (0, [.null, .int (nI 0), .int (nI 0), .int (nI 0)])), (a, .inr (9, [.ref b, .int (nI 0), .int (nI 0), .int (nI n)])), (b, .inl (cB, m, .inl (gN F)))]) : Met l yJ0_init_81219 wsJ0_init_81219 ({ frames := 4, cells := 1, slots := 60, locals := 150 }) (va_Pc [.ref h, .ref a] (sPx D [(cI, .int), (cC, .char), (cD, .object "DoorDialect$Door"), (cR, .object "DoorDialect$House")] nN sa (aN n0) cB (fun H => va_P D vwCl [(h, .inr (0, [.null, .int (nI 0), .int (nI 0), .int (nI 0)])), (a, .inr (9, [.ref b, .int (nI 0), .int (nI 0), .int (nI n)])), (b, .inl (cB, m, .inl (gN F)))] H) [])) (gQv (fun H => ∃ (v : Nat) (F2 : Nat → Nat), va_P D vwCl [(h, .inr (0, [.ref v, .int (nI 0), .int (nI 0), .int (nI 0)])), (v, .inl (cB, n, .inl (gN F2)))] H ∧ n0 ≤ v ∧ ∀ j, j < n → F2 j = F j) (aN n0)) 1 60 (aN n0) := by
  refine nv_met (cc := cJ0_init_81219) (maxL := 2) (ret := none) (by decide) rfl (Nat.le_of_ble_eq_true rfl) ?_
  intro p0 e0 s m0 args below meth c0 Q hq hargs hnA hpre ls hl
  obtain ⟨hx, hb, hr, hts, hown, hlocks, hml⟩ := hnA
  obtain ⟨hP, hT, hBk, hX⟩ := hpre
  have hown : s.vm.findClass RJ0 = some m0.cls := hown
  have hl : lv_has ls 2 [(0, .ref h), (1, .ref a)] := hl
  have hS : va_S (aN n0) s.heap s.heap [] := va_S.rf
  have hP : va_P D vwCl [(h, .inr (0, [.null, .int (nI 0), .int (nI 0), .int (nI 0)])), (a, .inr (9, [.ref b, .int (nI 0), .int (nI 0), .int (nI n)])), (b, .inl (cB, m, .inl (gN F)))] s.heap := hP
  refine lv_aload_n hx hb dJ0_init_81219_0 rfl (lv_at hl 0 rfl) ?_
  refine lv_aload_n hx hb dJ0_init_81219_1 rfl (lv_at hl 1 rfl) ?_
  refine lv_null hx hb dJ0_init_81219_2 ?_
  refine nv_kGv (va_runI (As := [.ref a, .null]) (rest := []) ⟨hx, hb, hml, hown, hts⟩ (c_T_initA l (n0 := n0) hnm hm9 hn9 hF9 hD) ⟨callB_of 2 hts gJ0_init_81219_J0_init_db425 rfl rfl rfl (hts (.initialized RJ0) (by decide +kernel)) (hts (.methodLink RJ0 489 yJ0_init_db425) (by decide +kernel)) (by decide +kernel) ⟨Nat.le_of_ble_eq_true rfl, Nat.le_of_ble_eq_true rfl⟩, rfl, hts (.instanceMethod yJ0_init_db425) (by decide +kernel)⟩ (nx_pS hT hBk tx0 hS (fun q h => h) hP) rfl rfl hl.1 rfl (lv_room (Nat.le_of_ble_eq_true rfl)) dJ0_init_81219_3 ⟨Nat.le_of_ble_eq_true rfl, Nat.le_of_ble_eq_true rfl⟩) hS (fun q h => h) (fun H locs hPn hK hS => ?_)
  exact nv_retGv2 hq hx hb hr hlocks (Nat.le_of_ble_eq_true rfl) (Nat.le_of_ble_eq_true rfl) hS hPn dJ0_init_81219_6
set_option maxHeartbeats 1000000 in
set_option maxRecDepth 100000 in
theorem c_B_toString (l : Launch) {D : va_G} {cI cC cD cR cB : ClassId} {sa : sA} {n0 a : Nat} {L0 : List Nat} (h60 : L0.length ≤ 60) : Met l yJ4_toString_0e30d wsJ4_toString_0e30d ({ frames := 5, cells := 2, slots := 64, locals := 171 }) (va_Pc [.ref a] (sPx D [(cI, .int), (cC, .char), (cD, .object "DoorDialect$Door"), (cR, .object "DoorDialect$House")] nN sa (aN n0) cB (sbP D cB n0 a L0) [])) (gQn (stP D cB n0 L0) (aN n0)) 2 64 (aN n0) := by
  refine nv_met (cc := cJ4_toString_0e30d) (maxL := 1) (ret := (some (.object "java/lang/String"))) (by decide) rfl (Nat.le_of_ble_eq_true rfl) ?_
  intro p0 e0 s m0 args below meth c0 Q hq hargs hnA hpre ls hl
  obtain ⟨hx, hb, hr, hts, hown, hlocks, hml⟩ := hnA
  obtain ⟨hP, hT, hBk, hX⟩ := hpre
  have hown : s.vm.findClass RJ4 = some m0.cls := hown
  have hl : lv_has ls 1 [(0, .ref a)] := hl
  have hS : va_S (aN n0) s.heap s.heap [] := va_S.rf
  have in_J0 : ∀ w ∈ wsJ00, w ∈ wsJ4_toString_0e30d := by decide +kernel
  obtain ⟨b, m, F, hP0, hab, ha0, hb0, hLm, hm9, hF9, hF0⟩ := hP
  have hP : va_P D vwCl [(a, .inr (9, [.ref b, .int (nI 0), .int (nI 0), .int (nI L0.length)])), (b, .inl (cB, m, .inl (gN F)))] s.heap := hP0
  have hD : va_D (aN n0) [(a, .inr (9, [.ref b, .int (nI 0), .int (nI 0), .int (nI L0.length)])), (b, .inl (cB, m, .inl (gN F)))] := va_D2 hab ha0 hb0
  have hns : n0 ≤ s.heap.size := Nat.le_trans ha0 (Nat.le_of_lt (vx_lt hP (k := 0) rfl))
  have hA : ∀ q : Nat, s.heap.size ≤ q → aN n0 q := fun q hq => Nat.le_trans hns hq
  refine va_new (D := D) (ci := 0) (C := RJ0) (T := TJ0) (N := 4) (fs := [.null, .int (nI 0), .int (nI 0), .int (nI 0)]) hx hb hts in_J0 tyJ0 tyJ0_ok hown (hts (.classLink RJ4 18 RJ0) (by decide +kernel)) (hts (.instantiable RJ0 4) (by decide +kernel)) (hts (.initialized RJ0) (by decide +kernel)) hBk.1 hP hD hS hA rfl (fun j hj => by rcases (show j = 0 ∨ j = 1 ∨ j = 2 ∨ j = 3 by omega) with rfl | rfl | rfl | rfl <;> rfl) (Nat.le_of_ble_eq_true rfl) (Nat.le_of_ble_eq_true rfl) dJ4_toString_0e30d_0 (fun h H hP hD hS => ?_)
  have hP : va_P D vwCl [(a, .inr (9, [.ref b, .int (nI 0), .int (nI 0), .int (nI L0.length)])), (b, .inl (cB, m, .inl (gN F))), (h, .inr (0, [.null, .int (nI 0), .int (nI 0), .int (nI 0)]))] H := hP
  have hD : va_D _ [(a, .inr (9, [.ref b, .int (nI 0), .int (nI 0), .int (nI L0.length)])), (b, .inl (cB, m, .inl (gN F))), (h, .inr (0, [.null, .int (nI 0), .int (nI 0), .int (nI 0)]))] := hD
  have hP : va_P D vwCl [(h, .inr (0, [.null, .int (nI 0), .int (nI 0), .int (nI 0)])), (a, .inr (9, [.ref b, .int (nI 0), .int (nI 0), .int (nI L0.length)])), (b, .inl (cB, m, .inl (gN F)))] H := hP.sub [2, 0, 1] rfl
  have hD : va_D (aN n0) [(h, .inr (0, [.null, .int (nI 0), .int (nI 0), .int (nI 0)])), (a, .inr (9, [.ref b, .int (nI 0), .int (nI 0), .int (nI L0.length)])), (b, .inl (cB, m, .inl (gN F)))] := hD.sub [2, 0, 1] (by decide) rfl
  refine lv_dup hx hb dJ4_toString_0e30d_3 rfl ?_
  refine lv_aload_n hx hb dJ4_toString_0e30d_4 rfl (lv_at hl 0 rfl) ?_
  refine nv_kGv (va_runI (As := [.ref a]) (rest := [.ref h]) ⟨hx, hb, hml, hown, hts⟩ (c_T_initB l (n0 := n0) hLm hm9 h60 hF9 hD) ⟨callB_of 1 hts gJ4_toString_0e30d_J0_init_81219 rfl rfl rfl (hts (.initialized RJ0) (by decide +kernel)) (hts (.methodLink RJ4 137 yJ0_init_81219) (by decide +kernel)) (by decide +kernel) ⟨Nat.le_of_ble_eq_true rfl, Nat.le_of_ble_eq_true rfl⟩, rfl, hts (.instanceMethod yJ0_init_81219) (by decide +kernel)⟩ (nx_pS hT hBk tx0 hS (fun q h => h) hP) rfl rfl hl.1 rfl (lv_room (Nat.le_of_ble_eq_true rfl)) dJ4_toString_0e30d_5 ⟨Nat.le_of_ble_eq_true rfl, Nat.le_of_ble_eq_true rfl⟩) hS (fun q h => h) (fun H locs hPn hK hS => ?_)
  obtain ⟨v, F2, hPv, hv0, hF2⟩ := hPn
  exact nv_retGn hq hx hb hr (Or.inl ⟨_, rfl⟩) hlocks (Nat.le_of_ble_eq_true rfl) (Nat.le_of_ble_eq_true rfl) hS ⟨v, F2, hPv, hD.2 0 _ rfl, hv0, fun j hj => (hF2 j hj).trans (hF0 j hj)⟩ dJ4_toString_0e30d_8
set_option maxHeartbeats 1000000 in
set_option maxRecDepth 100000 in
theorem c_S_init5 (l : Launch) {D : va_G} {cI cC cD cR cB : ClassId} {sa : sA} {n0 a : Nat} (ha0 : n0 ≤ a) : Met l yJ5_init_d00df wsJ5_init_d00df ({ frames := 1, cells := 1, slots := 16, locals := 40 }) (va_Pc [.ref a, .int (nI 16)] (sPx D [(cI, .int), (cC, .char), (cD, .object "DoorDialect$Door"), (cR, .object "DoorDialect$House")] nN sa (aN n0) cB (fun H => va_P D vwCl [(a, .inr (9, [.null, .int (nI 0), .int (nI 0), .int (nI 0)]))] H) [])) (gQv (sbP D cB n0 a []) (aN n0)) 1 16 (aN n0) := by
  refine nv_met (cc := cJ5_init_d00df) (maxL := 2) (ret := none) (by decide) rfl (Nat.le_of_ble_eq_true rfl) ?_
  intro p0 e0 s m0 args below meth c0 Q hq hargs hnA hpre ls hl
  obtain ⟨hx, hb, hr, hts, hown, hlocks, hml⟩ := hnA
  obtain ⟨hP, hT, hBk, hX⟩ := hpre
  have hown : s.vm.findClass RJ5 = some m0.cls := hown
  have hl : lv_has ls 2 [(0, .ref a), (1, .int (nI 16))] := hl
  have hS : va_S (aN n0) s.heap s.heap [] := va_S.rf
  have hP : va_P D vwCl [(a, .inr (9, [.null, .int (nI 0), .int (nI 0), .int (nI 0)]))] s.heap := hP
  have in_J4 : ∀ w ∈ wsJ40, w ∈ wsJ5_init_d00df := by decide +kernel
  have fl_15 := hts (.fieldLink RJ5 15 "java/lang/AbstractStringBuilder" "value" "[B") (by decide +kernel)
  have fl_18 := hts (.fieldLink RJ5 18 "java/lang/String" "COMPACT_STRINGS" "Z") (by decide +kernel)
  have fl_22 := hts (.fieldLink RJ5 22 "java/lang/AbstractStringBuilder" "coder" "B") (by decide +kernel)
  have hD : va_D (aN n0) [(a, .inr (9, [.null, .int (nI 0), .int (nI 0), .int (nI 0)]))] := va_D1 ha0
  have ha9 : a < s.heap.size := vx_lt hP (k := 0) rfl
  have hns : n0 ≤ s.heap.size := Nat.le_trans ha0 (Nat.le_of_lt ha9)
  have hA : ∀ q : Nat, s.heap.size ≤ q → aN n0 q := fun q hq => Nat.le_trans hns hq
  refine lv_aload_n hx hb dJ5_init_d00df_0 rfl (lv_at hl 0 rfl) ?_
  refine W.objInit hx hb hown (hts (.methodLink RJ5 3 objectInit) (by decide +kernel)) (hts (.instanceMethod objectInit) (by decide +kernel)) (hts (.code objectInit ⟨#[0xb1]⟩ 1 none) (by decide +kernel)) rfl (by rw [hml]; exact hl.1) rfl dJ5_init_d00df_1 (Nat.le_of_ble_eq_true rfl) (Nat.le_of_ble_eq_true rfl) ?_
  refine W.eq (g2 := F0 m0 4 ls []) rfl ?_
  refine va_gets hx hb hT.2.2.2.1.1 hS hown fl_18 (fun _ h9 => h9) dJ5_init_d00df_4 ?_
  refine nv_to 1 rfl ?_
  refine nv_if_eq (tgt := 25) hx hb dJ5_init_d00df_7 (by decide) (by omega) (fun c1 => absurd c1 (by decide)) (fun c1 => ?_)
  refine lv_aload_n hx hb dJ5_init_d00df_10 rfl (lv_at hl 0 rfl) ?_
  refine lv_iload_n hx hb dJ5_init_d00df_11 rfl (lv_at hl 1 rfl) ?_
  refine nv_newa (atype := .byte) (ty := .byte) (n := 16) (a0 := (16, .inl (gN (fun _ => 0)))) hx hb (hts (.arrayClass .byte) (by decide +kernel)) rfl hBk.1 hP hD hS hA 0 rfl (fun _ => rfl) (by omega) (by show (16) * 1 ≤ 536870912; omega) (by first | exact Nat.le_of_ble_eq_true rfl | (simp only []; omega)) (by show 0 + 16 ≤ 16; omega) dJ5_init_d00df_12 (fun b H hP hD hS => ?_)
  have hP : va_P D vwCl [(a, .inr (9, [.null, .int (nI 0), .int (nI 0), .int (nI 0)])), (b, .inl (cB, 16, .inl (gN (fun _ => 0))))] H := hP
  have hD : va_D _ [(a, .inr (9, [.null, .int (nI 0), .int (nI 0), .int (nI 0)])), (b, .inl (cB, 16, .inl (gN (fun _ => 0))))] := hD
  refine va_put (D := D) (ci := 9) (v := .ref b) (ty := (.array .byte)) (C := RJ4) (T := TJ4) (N := 4) hx hb hts in_J4 tyJ4 tyJ4_ok nmJ4 hown hBk.1 hP hD hS 0 rfl rfl 0 (by decide) fl_15 (fun _ h9 => h9) rfl (by decide +kernel) rfl rfl (Nat.le_of_ble_eq_true rfl) dJ5_init_d00df_14 (fun H locs hP hD hS => ?_)
  have hP : va_P D vwCl [(a, .inr (9, [.ref b, .int (nI 0), .int (nI 0), .int (nI 0)])), (b, .inl (cB, 16, .inl (gN (fun _ => 0))))] H := hP
  have hD : va_D _ [(a, .inr (9, [.ref b, .int (nI 0), .int (nI 0), .int (nI 0)])), (b, .inl (cB, 16, .inl (gN (fun _ => 0))))] := hD
  refine lv_aload_n hx hb dJ5_init_d00df_17 rfl (lv_at hl 0 rfl) ?_
  refine lv_iconst (v := nI 0) hx hb dJ5_init_d00df_18 (by decide) ?_
  refine va_put (D := D) (ci := 9) (v := .int (nI 0)) (ty := .byte) (C := RJ4) (T := TJ4) (N := 4) hx hb hts in_J4 tyJ4 tyJ4_ok nmJ4 hown hBk.1 hP hD hS 0 rfl rfl 1 (by decide) fl_22 (fun _ h9 => h9) rfl (by decide +kernel) rfl rfl (Nat.le_of_ble_eq_true rfl) dJ5_init_d00df_19 (fun H locs hP hD hS => ?_)
  have hP : va_P D vwCl [(a, .inr (9, [.ref b, .int (nI 0), .int (nI 0), .int (nI 0)])), (b, .inl (cB, 16, .inl (gN (fun _ => 0))))] H := hP
  have hD : va_D _ [(a, .inr (9, [.ref b, .int (nI 0), .int (nI 0), .int (nI 0)])), (b, .inl (cB, 16, .inl (gN (fun _ => 0))))] := hD
  refine lv_goto (tgt := 38) hx hb dJ5_init_d00df_22 (by decide) ?_
  have hab : a ≠ b := fun e => absurd (hD.1 0 1 _ _ rfl rfl e) (by decide)
  exact nv_retGv2 hq hx hb hr hlocks (Nat.le_of_ble_eq_true rfl) (Nat.le_of_ble_eq_true rfl) hS ⟨b, 16, _, hP, hab, ha0, hD.2 1 _ rfl, Nat.zero_le _, by decide, fun _ => by decide, fun j hj => absurd hj (Nat.not_lt_zero _)⟩ dJ5_init_d00df_38
set_option maxHeartbeats 1000000 in
set_option maxRecDepth 100000 in
theorem c_B_init (l : Launch) {D : va_G} {cI cC cD cR cB : ClassId} {sa : sA} {n0 a : Nat} (ha0 : n0 ≤ a) : Met l yJ4_init_da8c8 wsJ4_init_da8c8 ({ frames := 2, cells := 1, slots := 16, locals := 61 }) (va_Pc [.ref a] (sPx D [(cI, .int), (cC, .char), (cD, .object "DoorDialect$Door"), (cR, .object "DoorDialect$House")] nN sa (aN n0) cB (fun H => va_P D vwCl [(a, .inr (9, [.null, .int (nI 0), .int (nI 0), .int (nI 0)]))] H) [])) (gQv (sbP D cB n0 a []) (aN n0)) 1 16 (aN n0) := by
  refine nv_met (cc := cJ4_init_da8c8) (maxL := 1) (ret := none) (by decide) rfl (Nat.le_of_ble_eq_true rfl) ?_
  intro p0 e0 s m0 args below meth c0 Q hq hargs hnA hpre ls hl
  obtain ⟨hx, hb, hr, hts, hown, hlocks, hml⟩ := hnA
  obtain ⟨hP, hT, hBk, hX⟩ := hpre
  have hown : s.vm.findClass RJ4 = some m0.cls := hown
  have hl : lv_has ls 1 [(0, .ref a)] := hl
  have hS : va_S (aN n0) s.heap s.heap [] := va_S.rf
  have hP : va_P D vwCl [(a, .inr (9, [.null, .int (nI 0), .int (nI 0), .int (nI 0)]))] s.heap := hP
  refine lv_aload_n hx hb dJ4_init_da8c8_0 rfl (lv_at hl 0 rfl) ?_
  refine lv_bipush (v := nI 16) hx hb dJ4_init_da8c8_1 (by decide) ?_
  refine nv_kGv (va_runI (As := [.int (nI 16)]) (rest := []) ⟨hx, hb, hml, hown, hts⟩ (c_S_init5 l (n0 := n0) ha0) ⟨callB_of 1 hts gJ4_init_da8c8_J5_init_d00df rfl rfl rfl (hts (.initialized RJ5) (by decide +kernel)) (hts (.methodLink RJ4 1 yJ5_init_d00df) (by decide +kernel)) (by decide +kernel) ⟨Nat.le_of_ble_eq_true rfl, Nat.le_of_ble_eq_true rfl⟩, rfl, hts (.instanceMethod yJ5_init_d00df) (by decide +kernel)⟩ (nx_pS hT hBk tx0 hS (fun q h => h) hP) rfl rfl hl.1 rfl (lv_room (Nat.le_of_ble_eq_true rfl)) dJ4_init_da8c8_3 ⟨Nat.le_of_ble_eq_true rfl, Nat.le_of_ble_eq_true rfl⟩) hS (fun q h => h) (fun H locs hPn hK hS => ?_)
  exact nv_retGv2 hq hx hb hr hlocks (Nat.le_of_ble_eq_true rfl) (Nat.le_of_ble_eq_true rfl) hS hPn dJ4_init_da8c8_6
