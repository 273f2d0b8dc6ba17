set_option maxHeartbeats 1000000 in
set_option maxRecDepth 100000 in
theorem c_X3_forgetAll (l : Launch) {D : va_G} {cI cC cD cR : ClassId} {sa : sA} {A : Nat → Prop} {AD : Nat → Nat} {f n : Nat} (hD : ∀ f n, va_D A (pw9 cR AD f n))  : Met l yX3_forgetAll wsX3_forgetAll ({ frames := 0, cells := 0, slots := 0, locals := 0 }) (va_Pc [.ref (AD 29)] (tPre D [(cI, .int), (cC, .char), (cD, .object "DoorDialect$Door"), (cR, .object "DoorDialect$House")] nN sa A (fun H => va_P D vwCl (pw9 cR AD (f) (n)) H))) (gQv ((fun H => va_P D vwCl (pw9 cR AD f 0) H)) A) 0 0 A := by
  refine nv_met (cc := cX3_forgetAll) (maxL := 1) (ret := none) (by decide) rfl (Nat.le_of_ble_eq_true rfl) ?_
  intro p0 e0 s m0 args below meth c0 Q hq hargs hnA hpre ls hl
  obtain ⟨hx, hb, hr, hts, hown, hlocks, hml⟩ := hnA
  obtain ⟨hP, hT⟩ := hpre
  have hK := hT.1
  have hown : s.vm.findClass RX3 = some m0.cls := hown
  have hP : va_P D vwCl (pw9 cR AD (f) (n)) s.heap := hP
  have hl : lv_has ls 1 [(0, .ref (AD 29))] := hl
  have hS : va_S A s.heap s.heap [] := va_S.rf
  have in_X3 : ∀ w ∈ wsX30, w ∈ wsX3_forgetAll := by decide +kernel
  have fl_22 := hts (.fieldLink RX3 22 "DoorDialect$Past" "count" "I") (by decide +kernel)
  refine lv_aload_n hx hb dX3_forgetAll_0 rfl (lv_at hl 0 rfl) ?_
  refine lv_iconst (v := nI 0) hx hb dX3_forgetAll_1 (by decide) ?_
  refine va_put (D := D) (ci := 5) (v := .int (nI 0)) (ty := .int) (C := RX3) (T := TX3) (N := 3) hx hb hts in_X3 tyX3 tyX3_ok nmX3 hown hK.1 hP (hD _ _) hS 0 rfl rfl 2 (by decide) fl_22 (fun _ h9 => h9) rfl (by decide +kernel) rfl rfl (Nat.le_of_ble_eq_true rfl) dX3_forgetAll_2 (fun H locs hP _ hS => ?_)
  have hP : va_P D vwCl (pw9 cR AD (f) (0)) H := hP
  exact nv_retGv hq hx hb hr hlocks hS (hP) dX3_forgetAll_5

set_option maxHeartbeats 1000000 in
set_option maxRecDepth 100000 in
theorem c_X3_staged (l : Launch) {D : va_G} {cI cC cD cR : ClassId} {sa : sA} {A : Nat → Prop} {AD : Nat → Nat} {f n : Nat} (hf : f < 9) (hn : n ≤ 8) : Met l yX3_staged wsX3_staged ({ frames := 1, cells := 0, slots := 0, locals := 22 }) (va_Pc [.ref (AD 29)] (tPre D [(cI, .int), (cC, .char), (cD, .object "DoorDialect$Door"), (cR, .object "DoorDialect$House")] nN sa A (fun H => va_P D vwCl (pw9 cR AD (f) (n)) H))) (sQr ((cAd AD (31 + 14 * ((f + n) % 9))) 0)) 0 0 (fun _ => False) := by
  refine nv_met (cc := cX3_staged) (maxL := 1) (ret := (some (.object "DoorDialect$House"))) (by decide) rfl (Nat.le_of_ble_eq_true rfl) ?_
  intro p0 e0 s m0 args below meth c0 Q hq hargs hnA hpre ls hl
  obtain ⟨hx, hb, hr, hts, hown, hlocks, hml⟩ := hnA
  obtain ⟨hP, hT⟩ := hpre
  have hK := hT.1
  have hown : s.vm.findClass RX3 = some m0.cls := hown
  have hP : va_P D vwCl (pw9 cR AD (f) (n)) s.heap := hP
  have hl : lv_has ls 1 [(0, .ref (AD 29))] := hl
  have hS : va_S A s.heap s.heap [] := va_S.rf
  have in_X3 : ∀ w ∈ wsX30, w ∈ wsX3_staged := by decide +kernel
  have fl_11 := hts (.fieldLink RX3 11 "DoorDialect$Past" "ring" "[LDoorDialect$House;") (by decide +kernel)
  have fl_18 := hts (.fieldLink RX3 18 "DoorDialect$Past" "first" "I") (by decide +kernel)
  have fl_22 := hts (.fieldLink RX3 22 "DoorDialect$Past" "count" "I") (by decide +kernel)
  refine lv_aload_n hx hb dX3_staged_0 rfl (lv_at hl 0 rfl) ?_
  refine va_get (D := D) (ci := 5) (v := .ref (cAd AD 29 1)) (C := RX3) (T := TX3) (N := 3) hx hb hts in_X3 hown hK.1 hP 0 rfl rfl 0 (by decide) fl_11 (fun _ h9 => h9) rfl dX3_staged_1 ?_
  refine lv_aload_n hx hb dX3_staged_4 rfl (lv_at hl 0 rfl) ?_
  refine va_get (D := D) (ci := 5) (v := .int (nI f)) (C := RX3) (T := TX3) (N := 3) hx hb hts in_X3 hown hK.1 hP 0 rfl rfl 1 (by decide) fl_18 (fun _ h9 => h9) rfl dX3_staged_5 ?_
  refine lv_aload_n hx hb dX3_staged_8 rfl (lv_at hl 0 rfl) ?_
  refine va_get (D := D) (ci := 5) (v := .int (nI n)) (C := RX3) (T := TX3) (N := 3) hx hb hts in_X3 hown hK.1 hP 0 rfl rfl 2 (by decide) fl_22 (fun _ h9 => h9) rfl dX3_staged_9 ?_
  refine nv_iadd hx hb dX3_staged_12 ?_
  refine lv_bipush (v := nI 9) hx hb dX3_staged_13 (by decide) ?_
  refine nv_kS (va_runS (As := [.int (nI (f + n)), .int (nI 9)]) (rest := [.ref (cAd AD 29 1)]) ⟨hx, hb, hml, hown, hts⟩ (c_J9_floorMod_7cf53 l (f + n) 9 (by omega) (by omega) (by omega)) (va_cwS 2 hts gX3_staged_J9_floorMod_7cf53 rfl rfl rfl (by decide +kernel) ⟨Nat.le_of_ble_eq_true rfl, Nat.le_of_ble_eq_true rfl⟩) (nt_pS hT hS trivial) rfl rfl hl.1 rfl (lv_room (Nat.le_of_ble_eq_true rfl)) dX3_staged_15 ⟨Nat.zero_le _, Nat.zero_le _⟩) ?_
  refine nv_aldq (i := (f + n) % 9) hx hb hK.1 hP 1 3 rfl rfl (by omega) (by decide) dX3_staged_18 ?_
  exact nv_retSr hq hx hb hr hlocks dX3_staged_19

set_option maxHeartbeats 1000000 in
set_option maxRecDepth 100000 in
theorem c_X3_keepStaged (l : Launch) {D : va_G} {cI cC cD cR : ClassId} {sa : sA} {A : Nat → Prop} {AD : Nat → Nat} {f n : Nat} (hD : ∀ f n, va_D A (pw9 cR AD f n)) (hf : f < 9) (hn : n ≤ 8) : Met l yX3_keepStaged wsX3_keepStaged ({ frames := 1, cells := 0, slots := 0, locals := 22 }) (va_Pc [.ref (AD 29)] (tPre D [(cI, .int), (cC, .char), (cD, .object "DoorDialect$Door"), (cR, .object "DoorDialect$House")] nN sa A (fun H => va_P D vwCl (pw9 cR AD (f) (n)) H))) (gQv ((fun H => va_P D vwCl (pw9 cR AD (if n < 8 then f else (f + 1) % 9) (if n < 8 then n + 1 else 8)) H)) A) 0 0 A := by
  refine nv_met (cc := cX3_keepStaged) (maxL := 1) (ret := none) (by decide) rfl (Nat.le_of_ble_eq_true rfl) ?_
  intro p0 e0 s m0 args below meth c0 Q hq hargs hnA hpre ls hl
  obtain ⟨hx, hb, hr, hts, hown, hlocks, hml⟩ := hnA
  obtain ⟨hP, hT⟩ := hpre
  have hK := hT.1
  have hown : s.vm.findClass RX3 = some m0.cls := hown
  have hP : va_P D vwCl (pw9 cR AD (f) (n)) s.heap := hP
  have hl : lv_has ls 1 [(0, .ref (AD 29))] := hl
  have hS : va_S A s.heap s.heap [] := va_S.rf
  have in_X3 : ∀ w ∈ wsX30, w ∈ wsX3_keepStaged := by decide +kernel
  have fl_18 := hts (.fieldLink RX3 18 "DoorDialect$Past" "first" "I") (by decide +kernel)
  have fl_22 := hts (.fieldLink RX3 22 "DoorDialect$Past" "count" "I") (by decide +kernel)
  refine lv_aload_n hx hb dX3_keepStaged_0 rfl (lv_at hl 0 rfl) ?_
  refine va_get (D := D) (ci := 5) (v := .int (nI n)) (C := RX3) (T := TX3) (N := 3) hx hb hts in_X3 hown hK.1 hP 0 rfl rfl 2 (by decide) fl_22 (fun _ h9 => h9) rfl dX3_keepStaged_1 ?_
  refine lv_bipush (v := nI 8) hx hb dX3_keepStaged_4 (by decide) ?_
  refine nv_icmp_ge (tgt := 22) hx hb dX3_keepStaged_6 (by decide) (by omega) (by omega) (fun c1 => ?_) (fun c1 => ?_)
  · refine lv_aload_n hx hb dX3_keepStaged_22 rfl (lv_at hl 0 rfl) ?_
    refine lv_aload_n hx hb dX3_keepStaged_23 rfl (lv_at hl 0 rfl) ?_
    refine va_get (D := D) (ci := 5) (v := .int (nI f)) (C := RX3) (T := TX3) (N := 3) hx hb hts in_X3 hown hK.1 hP 0 rfl rfl 1 (by decide) fl_18 (fun _ h9 => h9) rfl dX3_keepStaged_24 ?_
    refine lv_iconst (v := nI 1) hx hb dX3_keepStaged_27 (by decide) ?_
    refine nv_iadd hx hb dX3_keepStaged_28 ?_
    refine lv_bipush (v := nI 9) hx hb dX3_keepStaged_29 (by decide) ?_
    refine nv_kS (va_runS (As := [.int (nI (f + 1)), .int (nI 9)]) (rest := [.ref (AD 29)]) ⟨hx, hb, hml, hown, hts⟩ (c_J9_floorMod_7cf53 l (f + 1) 9 (by omega) (by omega) (by omega)) (va_cwS 2 hts gX3_keepStaged_J9_floorMod_7cf53 rfl rfl rfl (by decide +kernel) ⟨Nat.le_of_ble_eq_true rfl, Nat.le_of_ble_eq_true rfl⟩) (nt_pS hT hS trivial) rfl rfl hl.1 rfl (lv_room (Nat.le_of_ble_eq_true rfl)) dX3_keepStaged_31 ⟨Nat.zero_le _, Nat.zero_le _⟩) ?_
    refine va_put (D := D) (ci := 5) (v := .int (nI ((f + 1) % 9))) (ty := .int) (C := RX3) (T := TX3) (N := 3) hx hb hts in_X3 tyX3 tyX3_ok nmX3 hown hK.1 hP (hD _ _) hS 0 rfl rfl 1 (by decide) fl_18 (fun _ h9 => h9) rfl (by decide +kernel) rfl rfl (Nat.le_of_ble_eq_true rfl) dX3_keepStaged_34 (fun H locs hP _ hS => ?_)
    have hP : va_P D vwCl (pw9 cR AD ((f + 1) % 9) (n)) H := hP
    exact nv_retGv hq hx hb hr hlocks hS (by rcases (show n = 8 by omega) with rfl; exact hP) dX3_keepStaged_37
  · refine lv_aload_n hx hb dX3_keepStaged_9 rfl (lv_at hl 0 rfl) ?_
    refine lv_dup hx hb dX3_keepStaged_10 rfl ?_
    refine va_get (D := D) (ci := 5) (v := .int (nI n)) (C := RX3) (T := TX3) (N := 3) hx hb hts in_X3 hown hK.1 hP 0 rfl rfl 2 (by decide) fl_22 (fun _ h9 => h9) rfl dX3_keepStaged_11 ?_
    refine lv_iconst (v := nI 1) hx hb dX3_keepStaged_14 (by decide) ?_
    refine nv_iadd hx hb dX3_keepStaged_15 ?_
    refine va_put (D := D) (ci := 5) (v := .int (nI (n + 1))) (ty := .int) (C := RX3) (T := TX3) (N := 3) hx hb hts in_X3 tyX3 tyX3_ok nmX3 hown hK.1 hP (hD _ _) hS 0 rfl rfl 2 (by decide) fl_22 (fun _ h9 => h9) rfl (by decide +kernel) rfl rfl (Nat.le_of_ble_eq_true rfl) dX3_keepStaged_16 (fun H locs hP _ hS => ?_)
    have hP : va_P D vwCl (pw9 cR AD (f) (n + 1)) H := hP
    refine lv_goto (tgt := 37) hx hb dX3_keepStaged_19 (by decide) ?_
    exact nv_retGv hq hx hb hr hlocks hS (by rw [if_pos (show n < 8 by omega), if_pos (show n < 8 by omega)]; exact hP) dX3_keepStaged_37

set_option maxHeartbeats 1000000 in
set_option maxRecDepth 100000 in
theorem c_X3_takeLatest (l : Launch) {D : va_G} {cI cC cD cR : ClassId} {sa : sA} {A : Nat → Prop} {AD : Nat → Nat} {f n : Nat} (hD : ∀ f n, va_D A (pw9 cR AD f n)) (hf : f < 9) (hn : n ≤ 8) (h0 : ¬ n = 0) : Met l yX3_takeLatest wsX3_takeLatest ({ frames := 2, cells := 0, slots := 0, locals := 42 }) (va_Pc [.ref (AD 29)] (tPre D [(cI, .int), (cC, .char), (cD, .object "DoorDialect$Door"), (cR, .object "DoorDialect$House")] nN sa A (fun H => va_P D vwCl (pw9 cR AD (f) (n)) H))) (gQr ((cAd AD (31 + 14 * ((f + (n - 1)) % 9))) 0) (fun H => va_P D vwCl (pw9 cR AD f (n - 1)) H) A) 0 0 A := by
  refine nv_met (cc := cX3_takeLatest) (maxL := 1) (ret := (some (.object "DoorDialect$House"))) (by decide) rfl (Nat.le_of_ble_eq_true rfl) ?_
  intro p0 e0 s m0 args below meth c0 Q hq hargs hnA hpre ls hl
  obtain ⟨hx, hb, hr, hts, hown, hlocks, hml⟩ := hnA
  obtain ⟨hP, hT⟩ := hpre
  have hK := hT.1
  have hown : s.vm.findClass RX3 = some m0.cls := hown
  have hP : va_P D vwCl (pw9 cR AD (f) (n)) s.heap := hP
  have hl : lv_has ls 1 [(0, .ref (AD 29))] := hl
  have hS : va_S A s.heap s.heap [] := va_S.rf
  have in_X3 : ∀ w ∈ wsX30, w ∈ wsX3_takeLatest := by decide +kernel
  have fl_22 := hts (.fieldLink RX3 22 "DoorDialect$Past" "count" "I") (by decide +kernel)
  refine lv_aload_n hx hb dX3_takeLatest_0 rfl (lv_at hl 0 rfl) ?_
  refine lv_dup hx hb dX3_takeLatest_1 rfl ?_
  refine va_get (D := D) (ci := 5) (v := .int (nI n)) (C := RX3) (T := TX3) (N := 3) hx hb hts in_X3 hown hK.1 hP 0 rfl rfl 2 (by decide) fl_22 (fun _ h9 => h9) rfl dX3_takeLatest_2 ?_
  refine lv_iconst (v := nI 1) hx hb dX3_takeLatest_5 (by decide) ?_
  refine nv_isub hx hb dX3_takeLatest_6 (by omega) ?_
  refine va_put (D := D) (ci := 5) (v := .int (nI (n - 1))) (ty := .int) (C := RX3) (T := TX3) (N := 3) hx hb hts in_X3 tyX3 tyX3_ok nmX3 hown hK.1 hP (hD _ _) hS 0 rfl rfl 2 (by decide) fl_22 (fun _ h9 => h9) rfl (by decide +kernel) rfl rfl (Nat.le_of_ble_eq_true rfl) dX3_takeLatest_7 (fun H locs hP _ hS => ?_)
  have hP : va_P D vwCl (pw9 cR AD (f) (n - 1)) H := hP
  refine lv_aload_n hx hb dX3_takeLatest_10 rfl (lv_at hl 0 rfl) ?_
  refine nv_kSr (va_runV (As := []) (rest := []) ⟨hx, hb, hml, hown, hts⟩ (c_X3_staged l (by omega) (by omega)) (cwV 0 hts gX3_takeLatest_X3_staged rfl rfl rfl (by decide +kernel) ⟨Nat.le_of_ble_eq_true rfl, Nat.le_of_ble_eq_true rfl⟩) (nt_pV hT hS hP (va_recv hK.1 hP (ci := 5) (q0 := 0) rfl rfl)) rfl rfl hl.1 rfl (lv_room (Nat.le_of_ble_eq_true rfl)) dX3_takeLatest_11 ⟨Nat.zero_le _, Nat.zero_le _⟩) ?_
  exact nv_retGr hq hx hb hr hlocks hS (hP) dX3_takeLatest_14

/-- two houses' cells -/
def cR2 (AD : Nat → Nat) (a b : Nat) : Nat → Prop := fun q => cRg AD b (b + 14) q ∨ cRg AD a (a + 14) q
section CP
variable {D : va_G} {AD : Nat → Nat} {H H1 H2 : Heap} {cI cC cD cR : ClassId} {z u : hS} {A : Nat → Prop} {G Hi : Nat → Nat} {f ch : Nat}
theorem cD_two (hI : cInj AD) {a b : Nat} (ha : a + 14 ≤ 165) (hb : b + 14 ≤ 165) (hd : a + 14 ≤ b ∨ b + 14 ≤ a) : va_D (cR2 AD a b) (hw cI cD (cAd AD a) z ++ hw cI cD (cAd AD b) u) := by
  refine va_D.app ((cD_of hI (cAt_hw a) ha).weaken (fun _ _ _ h => Or.inr h)) ((cD_of hI (cAt_hw b) hb).weaken (fun _ _ _ h => Or.inl h)) (fun i j p q hi hj e => ?_)
  obtain ⟨h1, e1⟩ := cAt_hw a i p hi
  obtain ⟨h2, e2⟩ := cAt_hw b j q hj
  have := hI (a + i) (b + j) (by omega) (by omega) (by rw [← e1, ← e2]; exact e)
  omega
theorem cR2_A (ha : ∀ i, i < 165 → A (AD i)) {a b : Nat} (h1 : a + 14 ≤ 165) (h2 : b + 14 ≤ 165) : ∀ q, cR2 AD a b q → A q := fun q h => h.elim (cRg_A ha h2 q) (cRg_A ha h1 q)
theorem cR2_no (hI : cInj AD) {a b j : Nat} (h1 : a + 14 ≤ 165) (h2 : b + 14 ≤ 165) (hj : j < 165) (ha : j < a ∨ a + 14 ≤ j) (hb : j < b ∨ b + 14 ≤ j) : ¬ cR2 AD a b (AD j) := fun h => h.elim (cRg_no hI h2 hj hb) (cRg_no hI h1 hj ha)
theorem cOn.keep2 {P : Heap → Prop} {lo hi a b : Nat} (hc : cOn AD lo hi P) (hI : cInj AD) (hK : cFr (cR2 AD a b) H H1) (hP : P H) (ha : hi ≤ a ∨ a + 14 ≤ lo) (hb : hi ≤ b ∨ b + 14 ≤ lo) (h0 : hi ≤ 165) (h1 : a + 14 ≤ 165) (h2 : b + 14 ≤ 165) : P H1 :=
  hc _ H H1 (fun i x y => cR2_no hI h1 h2 (by omega) (by omega) (by omega)) hK hP
theorem hPush_new {j n : Nat} (h : j < 128) : hAt (hPush Hi G n) (if n = 8 then 7 else n) j = G j := by
  unfold hAt hPush va_cpy
  split
  · dsimp only
    rw [if_pos (by omega)]; exact congrArg G (by omega)
  · dsimp only
    rw [if_pos (by omega)]; exact congrArg G (by omega)
theorem hPush_old {i j n : Nat} (hn : ¬ n = 8) (hi : i < n) (h : j < 128) : hAt (hPush Hi G n) i j = hAt Hi i j := by
  unfold hAt hPush va_cpy
  rw [if_neg hn, if_neg (by omega)]
theorem hPush_old8 {i j : Nat} (hi : i < 7) (h : j < 128) : hAt (hPush Hi G 8) i j = hAt Hi (i + 1) j := by
  unfold hAt hPush va_cpy
  rw [if_pos rfl, if_neg (by omega)]
  dsimp only
  rw [if_pos (by omega)]
  congr 1
  omega
/-- a house is kept in the past -/
theorem cPa_push (hI : cInj AD) (hch : ch ≤ 8) (hf : f < 9) (hHw : ∀ j, j < ch → hAt Hi j 0 ≤ 8 ∧ hAt Hi j 1 ≤ 6 ∧ hAt Hi j 2 ≤ 5) (hGw : G 0 ≤ 8 ∧ G 1 ≤ 6 ∧ G 2 ≤ 5) (hring : ∀ k, k < 9 → ∃ u, hOk u ∧ va_P D vwCl (hw cI cD (cAd AD (31 + 14 * k)) u) H ∧ ∀ j, j < ch → (f + j) % 9 = k → hRel u (hAt Hi j))
    (hK1 : cFr (cR2 AD (31 + 14 * ((f + ch) % 9)) 1) H H1) (hK2 : cFr (cRg AD 29 31) H1 H2) (hz : va_P D vwCl (hw cI cD (cAd AD (31 + 14 * ((f + ch) % 9))) z) H1) (hzk : hOk z) (hzR : hRel z G)
    (hPp : va_P D vwCl (pw9 cR AD (if ch < 8 then f else (f + 1) % 9) (if ch < 8 then ch + 1 else 8)) H2) : cPa D cI cD cR AD (hPush Hi G ch) (if ch = 8 then 8 else ch + 1) H2 := by
  rw [show (if ch < 8 then ch + 1 else 8) = (if ch = 8 then 8 else ch + 1) by split <;> split <;> omega] at hPp
  refine ⟨_, by split <;> omega, hPp, fun k hk => ?_⟩
  by_cases e : k = (f + ch) % 9
  · subst e
    refine ⟨z, hzk, (cOn_P (cAt_hw (31 + 14 * ((f + ch) % 9)))).keep hI hK2 hz (Or.inr (by omega)) (by omega) (by decide), fun j hj h9 => ?_⟩
    have ej : j = if ch = 8 then 7 else ch := by
      by_cases q : ch = 8
      · rw [if_pos q] at hj ⊢; rw [if_neg (by omega)] at h9; omega
      · rw [if_neg q] at hj ⊢; rw [if_pos (by omega)] at h9; omega
    subst ej
    exact hzR.congr hGw.1 hGw.2.1 hGw.2.2 (fun j hj => hPush_new hj)
  · obtain ⟨u, h1, h2, h3⟩ := hring k hk
    have h2 := (cOn_P (cAt_hw (31 + 14 * k))).keep2 hI hK1 h2 (by omega) (Or.inr (by omega)) (by omega) (by omega) (by decide)
    refine ⟨u, h1, (cOn_P (cAt_hw (31 + 14 * k))).keep hI hK2 h2 (Or.inr (by omega)) (by omega) (by decide), fun j hj h9 => ?_⟩
    by_cases q : ch = 8
    · subst q
      rw [if_pos rfl] at hj
      rw [if_neg (by decide)] at h9
      have hj7 : j < 7 := by omega
      obtain ⟨w1, w2, w3⟩ := hHw (j + 1) (by omega)
      exact (h3 (j + 1) (by omega) (by omega)).congr w1 w2 w3 (fun i hi => hPush_old8 hj7 hi)
    · rw [if_neg q] at hj
      rw [if_pos (by omega)] at h9
      have hjc : j < ch := by omega
      obtain ⟨w1, w2, w3⟩ := hHw j hjc
      exact (h3 j hjc h9).congr w1 w2 w3 (fun i hi => hPush_old q hjc hi)
end CP

set_option maxHeartbeats 1000000 in
set_option maxRecDepth 100000 in
theorem c_X3_stage (l : Launch) {D : va_G} {cI cC cD cR : ClassId} {sa : sA} {A : Nat → Prop} {AD : Nat → Nat} {f n : Nat} {z u : hS} (hD : ∀ z : hS, va_D A (hw cI cD (cAd AD (31 + 14 * ((f + n) % 9))) z ++ hw cI cD (cAd AD 1) u)) (hf : f < 9) (hn : n ≤ 8) (hk : hOk u) : Met l yX3_stage wsX3_stage ({ frames := 2, cells := 0, slots := 0, locals := 90 }) (va_Pc [.ref (AD 29), .ref ((cAd AD 1) 0)] (tPre D [(cI, .int), (cC, .char), (cD, .object "DoorDialect$Door"), (cR, .object "DoorDialect$House")] nN sa A (fun H => va_P D vwCl (pw9 cR AD f n) H ∧ va_P D vwCl (hw cI cD (cAd AD (31 + 14 * ((f + n) % 9))) z ++ hw cI cD (cAd AD 1) u) H))) (gQv ((fun H => ∃ z1, hEq z1 u ∧ va_P D vwCl (hw cI cD (cAd AD (31 + 14 * ((f + n) % 9))) z1 ++ hw cI cD (cAd AD 1) u) H)) A) 0 0 A := by
  refine nv_met (cc := cX3_stage) (maxL := 2) (ret := none) (by decide) rfl (Nat.le_of_ble_eq_true rfl) ?_
  intro p0 e0 s m0 args below meth c0 Q hq hargs hnA hpre ls hl
  obtain ⟨hx, hb, hr, hts, hown, hlocks, hml⟩ := hnA
  obtain ⟨hP, hT⟩ := hpre
  have hK := hT.1
  have hown : s.vm.findClass RX3 = some m0.cls := hown
  obtain ⟨hPp, hPh⟩ := hP
  have hPp : va_P D vwCl (pw9 cR AD f n) s.heap := hPp
  have hPh : va_P D vwCl (hw cI cD (cAd AD (31 + 14 * ((f + n) % 9))) z ++ hw cI cD (cAd AD 1) u) s.heap := hPh
  have hl : lv_has ls 2 [(0, .ref (AD 29)), (1, .ref ((cAd AD 1) 0))] := hl
  have hS : va_S A s.heap s.heap [] := va_S.rf
  refine lv_aload_n hx hb dX3_stage_0 rfl (lv_at hl 0 rfl) ?_
  have hP := hPp
  refine nv_kSr (va_runV (As := []) (rest := []) ⟨hx, hb, hml, hown, hts⟩ (c_X3_staged l (by omega) (by omega)) (cwV 0 hts gX3_stage_X3_staged rfl rfl rfl (by decide +kernel) ⟨Nat.le_of_ble_eq_true rfl, Nat.le_of_ble_eq_true rfl⟩) (nt_pV hT hS hP (va_recv hK.1 hP (ci := 5) (q0 := 0) rfl rfl)) rfl rfl hl.1 rfl (lv_room (Nat.le_of_ble_eq_true rfl)) dX3_stage_1 ⟨Nat.zero_le _, Nat.zero_le _⟩) ?_
  refine lv_aload_n hx hb dX3_stage_4 rfl (lv_at hl 1 rfl) ?_
  have hP := hPh
  refine nv_kGv (va_runV (As := [.ref ((cAd AD 1) 0)]) (rest := []) ⟨hx, hb, hml, hown, hts⟩ (c_X1_copyFrom l hD hk) (cwV 1 hts gX3_stage_X1_copyFrom rfl rfl rfl (by decide +kernel) ⟨Nat.le_of_ble_eq_true rfl, Nat.le_of_ble_eq_true rfl⟩) (nt_pV hT hS hP (va_recv hK.1 hP (ci := 3) (q0 := 0) rfl rfl)) rfl rfl hl.1 rfl (lv_room (Nat.le_of_ble_eq_true rfl)) dX3_stage_5 ⟨Nat.zero_le _, Nat.zero_le _⟩) hS (fun _ h9 => h9) (fun H locs hP1 hK1 hS => ?_)
  have hPh := hP1
  exact nv_retGv hq hx hb hr hlocks hS (hPh) dX3_stage_8
