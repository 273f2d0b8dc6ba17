section PF
variable {p : Program} {l : Launch} {e : Env} {R : Room} {s : State} {m : MethodId} {args : Array Value} {below : List Frame} {meth : Method} {c : Code} {H : Heap} {locs : List Loc} {cells slots : Nat} {Q : State → Prop}
variable {cc : ByteArray} {pc : Nat} {ls : Array Slot} {rest : List Value} {D : va_G} {cl : List vw_C} {A : Nat → Prop} {a : Nat} {tys : List (ClassId × FieldType)} {H0 : Heap}
/-- a field of one object is written: nothing else has changed -/
theorem nv_putF (hx : p.tables.exec = Jvm.exec) (hb : c.code = cc) {own ref C : String} {T : u_T} {N ci index : Nat} {Ts : List Cond} (hts : ∀ w ∈ Ts, w.before args s = true) (hin : ∀ w ∈ u_ws C T N, w ∈ Ts) (ty0 : Nat → FieldType) (hty : ∀ k, k < N → parseFieldDescriptor (T k).2.2.1 = some (ty0 k)) (hnm : ∀ a, a < N → ∀ b, b < N → a ≠ b → (T a).2.1 ≠ (T b).2.1) (hown : s.vm.findClass own = some m.cls) (hK : va_K D cl tys s) {fs : List Value} (hP : va_P D cl [(a, .inr (ci, fs))] H) (hA : A a) (hS : va_S A H0 H locs) (hc : cl[ci]? = some (C, T, N)) (k : Nat) (hk : k < N)
    (hlink : (Cond.fieldLink own index ref (T k).2.1 (T k).2.2.1).before args s = true) (hsame : ∀ x, s.fieldFound? (T k).1 (T k).2.1 (T k).2.2.1 = some x → s.fieldFound? ref (T k).2.1 (T k).2.2.1 = some x) (hfin : (T k).2.2.2 = false) {ty : FieldType} {v : Value} (hd : parseFieldDescriptor (T k).2.2.1 = some ty) (hn : narrow ty v = v) (hfit : fits ty v = true) (hl : k < fs.length) (hdg : decode cc pc = .ok (.putfield index, 3))
    (kk : ∀ (H1 : Heap) (locs1 : List Loc), va_P D cl [(a, .inr (ci, fs.set k v))] H1 → cFr (fun q => q = a) H H1 → va_S A H0 H1 locs1 → W p l e R s m args below meth c H1 locs1 cells slots Q (F0 m (pc + 3) ls rest)) : W p l e R s m args below meth c H locs cells slots Q (F0 m pc ls (v :: .ref a :: rest)) := by
  have hap := va_apart (own := own) hts hin ty0 hty hnm hK hc
  have h0 := hP 0 (a, .inr (ci, fs)) rfl
  obtain ⟨r, h1, cell, q1, q2, q3, q4⟩ := h0
  cases h1.symm.trans hc
  obtain ⟨z1, z2, kC, z3, z4⟩ := hK.1 ci _ hc
  obtain ⟨cf, kf, fi, f, hi, hsl⟩ := z1 k hk
  have hlay := hts _ (hin _ (u_in_lay hk))
  unfold u_lay at hlay
  rw [if_neg (by rw [hfin]; decide)] at hlay
  have hst := (u_facts z2 z3 (u_lays hts hin hk) hi).1
  have h6 := u_store z2 z3 z4 hlay hi hd hn hfit
  have hD : va_D (fun q => q = a) [(a, (.inr (ci, fs) : va_E))] := ⟨fun i j p q hi hj _ => by
    have h1 := (List.getElem?_eq_some_iff.mp hi).1
    have h2 := (List.getElem?_eq_some_iff.mp hj).1
    have h1 : i < 1 := h1
    have h2 : j < 1 := h2
    omega, fun k q hk => by
    have h1 := (List.getElem?_eq_some_iff.mp hk).1
    have h1 : k < 1 := h1
    rcases (show k = 0 by omega) with rfl
    cases Option.some.inj hk; rfl⟩
  refine W.putK hx hb (f := f) ⟨hown, hlink, ⟨_, _, _, hsame _ hi⟩, hst⟩ (by rw [q2]; exact h6) q1 q3 (by rw [hsl]; exact k2_hasslot (q4 k hk)) rfl rfl hdg fun H' e1 e2 e3 => ?_
  rw [hsl] at e1 ⊢
  have hPs := hP.set (p := 0) (e0 := .inr (ci, fs)) (e := .inr (ci, fs.set k v)) hD rfl ⟨_, hc, t_OB.to (V := updV (vp_V fs) k v) ⟨_, e1, q2, q3, t_set q4 hap hk v⟩ (fun j _ => vp_updV_set hl v j)⟩ e3
  exact kk H' _ hPs (fun q _ h9 => e3 q h9) (hS.put e2 e3 hA)
end PF
/-- the ring's houses -/
def cRing (D : va_G) (cI cD : ClassId) (AD : Nat → Nat) (Hi : Nat → Nat) (f ch : Nat) (H : Heap) : Prop := ∀ k, k < 9 → ∃ u, hOk u ∧ va_P D vwCl (hw cI cD (cAd AD (31 + 14 * k)) u) H ∧ ∀ j, j < ch → (f + j) % 9 = k → hRel u (hAt Hi j)
section RG
variable {D : va_G} {AD : Nat → Nat} {H H1 : Heap} {cI cC cD cR : ClassId} {z u v : hS} {G Hi Sv : Nat → Nat} {f ch n hs : Nat} {s : State} {tys : List (ClassId × FieldType)}
theorem cOn_Ring : cOn AD 31 157 (cRing D cI cD AD Hi f ch) := fun A1 H H1 hn hK h k hk => by
  obtain ⟨u, a, b, c⟩ := h k hk
  exact ⟨u, a, cOn_P (cAt_hw (31 + 14 * k)) A1 H H1 (fun i x y => hn i (by omega) (by omega)) hK b, c⟩
theorem cRing.less (h : cRing D cI cD AD Hi f ch H) (hn : n ≤ ch) : cRing D cI cD AD Hi f n H := fun k hk => by
  obtain ⟨u, a, b, c⟩ := h k hk
  exact ⟨u, a, b, fun j hj e => c j (by omega) e⟩
theorem cRing.none {Hi2 : Nat → Nat} {g : Nat} (h : cRing D cI cD AD Hi f ch H) : cRing D cI cD AD Hi2 g 0 H := fun k hk => by
  obtain ⟨u, a, b, c⟩ := h k hk
  exact ⟨u, a, b, fun j hj e => absurd hj (Nat.not_lt_zero j)⟩
/-- behind a copy out of the ring: the house that was read stands -/
theorem cRing.read (h : cRing D cI cD AD Hi f ch H) (hI : cInj AD) {k0 : Nat} (hk0 : k0 < 9) (hK : cFr (cR2 AD 1 (31 + 14 * k0)) H H1) (hv : hOk v) (hvP : va_P D vwCl (hw cI cD (cAd AD (31 + 14 * k0)) v) H1) (hvR : ∀ j, j < ch → (f + j) % 9 = k0 → hRel v (hAt Hi j)) : cRing D cI cD AD Hi f ch H1 := fun k hk => by
  by_cases e : k = k0
  · subst e; exact ⟨v, hv, hvP, hvR⟩
  · obtain ⟨u, a, b, c⟩ := h k hk
    exact ⟨u, a, (cOn_P (cAt_hw (31 + 14 * k))).keep2 hI hK b (Or.inr (by omega)) (by omega) (by omega) (by decide) (by omega), c⟩
theorem cSv.recv (hK : va_K D vwCl tys s) (h : cSv D cI cD AD hs Sv H) : ∃ cell : Cell, H[AD 15]? = some cell ∧ cell.vm.isStatics = false ∧ s.vm.findClass RX1 = some cell.cls := by
  obtain ⟨v, _, _, h⟩ := h
  exact va_recv hK h (ci := 3) (q0 := 0) rfl rfl
end RG

set_option maxHeartbeats 1000000 in
set_option maxRecDepth 100000 in
theorem c_X6_clear (l : Launch) {D : va_G} {cI cC cD cR : ClassId} {sa : sA} {A : Nat → Prop} {AD : Nat → Nat} {G Sv Hi In Le : Nat → Nat} {b hs ch ty wy ln : Nat} {ea ra wd : Int32} (hG : gWf b G) (hI : cInj AD) (hAA : ∀ i, i < 165 → A (AD i))  : Met l yX6_clear wsX6_clear ({ frames := 5, cells := 0, slots := 0, locals := 109 }) (va_Pc [.ref (AD 0)] (tPre D [(cI, .int), (cC, .char), (cD, .object "DoorDialect$Door"), (cR, .object "DoorDialect$House")] nN sa A (cW D cI cC cD cR AD G Sv Hi In Le hs ch ty wy ln ea ra wd))) (gQ (nI (G 0)) ((cW D cI cC cD cR AD gNew Sv Hi In Le hs 0 ty wy ln ea ra wd)) A) 0 0 A := by
  refine nv_met (cc := cX6_clear) (maxL := 2) (ret := (some .int)) (by decide) rfl (Nat.le_of_ble_eq_true rfl) ?_
  intro p0 e0 s m0 args below meth c0 Q hq hargs hnA hpre ls hl
  obtain ⟨hx, hb, hr, hts, hown, hlocks, hml⟩ := hnA
  obtain ⟨hP, hT⟩ := hpre
  have hK := hT.1
  have hown : s.vm.findClass RX6 = some m0.cls := hown
  obtain ⟨hPo, ⟨u, hR, hk, hPh⟩, hPi, hPs, hPp, hPw, hPt⟩ := hP
  have hPo : va_P D vwCl (cOb AD (hs) (wy) (wd) (ea) (ra)) s.heap := hPo
  have hPh : va_P D vwCl (hw cI cD (cAd AD 1) u) s.heap := hPh
  obtain ⟨f, hf, hPq, hring⟩ := hPp
  have hring : cRing D cI cD AD Hi f ch s.heap := hring
  have hPq : va_P D vwCl (pw9 cR AD f ch) s.heap := hPq
  have hl : lv_has ls 2 [(0, .ref (AD 0))] := hl
  have hS : va_S A s.heap s.heap [] := va_S.rf
  have in_X1 : ∀ w ∈ wsX10, w ∈ wsX6_clear := by decide +kernel
  have in_X6 : ∀ w ∈ wsX60, w ∈ wsX6_clear := by decide +kernel
  have fl_10 := hts (.fieldLink RX6 10 "DoorDialect" "house" "LDoorDialect$House;") (by decide +kernel)
  have fl_22 := hts (.fieldLink RX6 22 "DoorDialect" "past" "LDoorDialect$Past;") (by decide +kernel)
  have fl_64 := hts (.fieldLink RX6 64 "DoorDialect$House" "doorCount" "I") (by decide +kernel)
  obtain ⟨g_b, g_k, g_0, g_1, g_2, g_e, g_d, g_t, g_y, g_s, g_h⟩ := id hG
  refine lv_aload_n hx hb dX6_clear_0 rfl (lv_at hl 0 rfl) ?_
  refine va_get (D := D) (ci := 8) (v := .ref ((cAd AD 1) 0)) (C := RX6) (T := TX6) (N := 11) hx hb hts in_X6 hown hK.1 hPo 0 rfl rfl 0 (by decide) fl_10 (fun _ h9 => h9) rfl dX6_clear_1 ?_
  refine va_get (D := D) (ci := 3) (v := .int (nI (hs_c u 0))) (C := RX1) (T := TX1) (N := 12) hx hb hts in_X1 hown hK.1 hPh 0 rfl rfl 5 (by decide) fl_64 (fun _ h9 => h9) rfl dX6_clear_4 ?_
  refine nv_to (G 0) (congrArg nI ((hR.c0))) ?_
  refine lv_istore_n (lv' := [(1, .int (nI (G 0))), (0, .ref (AD 0))]) hx hb dX6_clear_7 rfl hl (by decide) rfl (fun ls hl => ?_)
  refine lv_aload_n hx hb dX6_clear_8 rfl (lv_at hl 1 rfl) ?_
  refine va_get (D := D) (ci := 8) (v := .ref ((cAd AD 1) 0)) (C := RX6) (T := TX6) (N := 11) hx hb hts in_X6 hown hK.1 hPo 0 rfl rfl 0 (by decide) fl_10 (fun _ h9 => h9) rfl dX6_clear_9 ?_
  refine nv_kGv (va_runV (As := []) (rest := []) ⟨hx, hb, hml, hown, hts⟩ (c_X1_makeNew l (fun _ => cD_of hI (cAt_hw 1) (by decide)) hk) (cwV 0 hts gX6_clear_X1_makeNew rfl rfl rfl (by decide +kernel) ⟨Nat.le_of_ble_eq_true rfl, Nat.le_of_ble_eq_true rfl⟩) (nt_pVn hT hS (cRg_A hAA (by decide)) hPh (va_recv hK.1 hPh (ci := 3) (q0 := 0) rfl rfl)) rfl rfl hl.1 rfl (lv_room (Nat.le_of_ble_eq_true rfl)) dX6_clear_12 ⟨Nat.zero_le _, Nat.zero_le _⟩) hS (cRg_A hAA (by decide)) (fun H locs hP1 hK1 hS => ?_)
  obtain ⟨u, hR, hk, hPh⟩ := hP1
  have hPo := cOn_Ob.keep hI hK1 hPo (Or.inl (by decide)) (by decide) (by decide)
  have hPs := cOn_Sv.keep hI hK1 hPs (Or.inr (by decide)) (by decide) (by decide)
  have hPw := cOn_Wk.keep hI hK1 hPw (Or.inr (by decide)) (by decide) (by decide)
  have hPt := cOn_Tx.keep hI hK1 hPt (Or.inr (by decide)) (by decide) (by decide)
  have hPi := cOn_In.keep hI hK1 hPi (Or.inr (by decide)) (by decide) (by decide)
  have hPq := (cOn_P (b := 29) (n := 2) cAt_2).keep hI hK1 hPq (Or.inr (by decide)) (by decide) (by decide)
  have hring := cOn_Ring.keep hI hK1 hring (Or.inr (by decide)) (by decide) (by decide)
  refine lv_aload_n hx hb dX6_clear_15 rfl (lv_at hl 1 rfl) ?_
  refine va_get (D := D) (ci := 8) (v := .ref ((cAd AD 29) 0)) (C := RX6) (T := TX6) (N := 11) hx hb hts in_X6 hown hK.1 hPo 0 rfl rfl 2 (by decide) fl_22 (fun _ h9 => h9) rfl dX6_clear_16 ?_
  refine nv_kGv (va_runV (As := []) (rest := []) ⟨hx, hb, hml, hown, hts⟩ (c_X3_forgetAll l (fun _ _ => cD_of (b := 29) (n := 2) hI cAt_2 (by decide))) (cwV 0 hts gX6_clear_X3_forgetAll rfl rfl rfl (by decide +kernel) ⟨Nat.le_of_ble_eq_true rfl, Nat.le_of_ble_eq_true rfl⟩) (nt_pVn hT hS (cRg_A hAA (by decide)) hPq (va_recv hK.1 hPq (ci := 5) (q0 := 0) rfl rfl)) rfl rfl hl.1 rfl (lv_room (Nat.le_of_ble_eq_true rfl)) dX6_clear_19 ⟨Nat.zero_le _, Nat.zero_le _⟩) hS (cRg_A hAA (by decide)) (fun H locs hP1 hK1 hS => ?_)
  have hPq := hP1
  have hPo := cOn_Ob.keep hI hK1 hPo (Or.inl (by decide)) (by decide) (by decide)
  have hPh := (cOn_P (cAt_hw 1)).keep hI hK1 hPh (Or.inl (by decide)) (by decide) (by decide)
  have hPs := cOn_Sv.keep hI hK1 hPs (Or.inl (by decide)) (by decide) (by decide)
  have hPw := cOn_Wk.keep hI hK1 hPw (Or.inr (by decide)) (by decide) (by decide)
  have hPt := cOn_Tx.keep hI hK1 hPt (Or.inr (by decide)) (by decide) (by decide)
  have hPi := cOn_In.keep hI hK1 hPi (Or.inr (by decide)) (by decide) (by decide)
  have hring := cOn_Ring.keep hI hK1 hring (Or.inr (by decide)) (by decide) (by decide)
  refine lv_iload_n hx hb dX6_clear_22 rfl (lv_at hl 0 rfl) ?_
  exact nv_retG hq hx hb hr hlocks (nar_i _) (rfl) hS (⟨hPo, ⟨u, hR, hk, hPh⟩, hPi, hPs, ⟨f, hf, hPq, hring.none⟩, hPw, hPt⟩) dX6_clear_23

set_option maxHeartbeats 1000000 in
set_option maxRecDepth 100000 in
theorem c_X6_undo (l : Launch) (hl9 : l.stackTraces = false) {D : va_G} {cI cC cD cR : ClassId} {sa : sA} {A : Nat → Prop} {AD : Nat → Nat} {G Sv Hi In Le : Nat → Nat} {b hs ch ty wy ln : Nat} {ea ra wd : Int32} (hG : gWf b G) (hI : cInj AD) (hAA : ∀ i, i < 165 → A (AD i)) (hch : ch ≤ 8) (hHw : ∀ j, j < ch → hAt Hi j 0 ≤ 8 ∧ hAt Hi j 1 ≤ 6 ∧ hAt Hi j 2 ≤ 5) : vx_Met l yX6_undo wsX6_undo ({ frames := 6, cells := 1, slots := 6, locals := 90 }) (va_Pc [.ref (AD 0)] (tPre D [(cI, .int), (cC, .char), (cD, .object "DoorDialect$Door"), (cR, .object "DoorDialect$House")] nN sa A (cW D cI cC cD cR AD G Sv Hi In Le hs ch ty wy ln ea ra wd))) (gQX (if ch = 0 then 1 else 0) (nI (ch - 1)) (cW D cI cC cD cR AD ((if ch = 0 then G else hAt Hi (ch - 1))) Sv Hi In Le hs (ch - 1) ty wy ln ea ra wd) A) (xQ ["java/lang/IllegalStateException"] (if ch = 0 then 1 else 0) (cW D cI cC cD cR AD ((if ch = 0 then G else hAt Hi (ch - 1))) Sv Hi In Le hs (ch - 1) ty wy ln ea ra wd) A) 1 6 A := by
  refine nv_metX (cc := cX6_undo) (maxL := 1) (ret := (some .int)) (by decide) rfl (Nat.le_of_ble_eq_true rfl) ?_
  intro p0 e0 s m0 args below meth c0 Q hq hargs hnA hout hpre ls hl
  obtain ⟨hx, hb, hr, hts, hown, hlocks, hml⟩ := hnA
  obtain ⟨hP, hT⟩ := hpre
  have hK := hT.1
  have hown : s.vm.findClass RX6 = some m0.cls := hown
  obtain ⟨hPo, ⟨u, hR, hk, hPh⟩, hPi, hPs, hPp, hPw, hPt⟩ := hP
  have hPo : va_P D vwCl (cOb AD (hs) (wy) (wd) (ea) (ra)) s.heap := hPo
  have hPh : va_P D vwCl (hw cI cD (cAd AD 1) u) s.heap := hPh
  obtain ⟨f, hf, hPq, hring⟩ := hPp
  have hring : cRing D cI cD AD Hi f ch s.heap := hring
  have hPq : va_P D vwCl (pw9 cR AD f ch) s.heap := hPq
  have hl : lv_has ls 1 [(0, .ref (AD 0))] := hl
  have hS : va_S A s.heap s.heap [] := va_S.rf
  have in_X3 : ∀ w ∈ wsX30, w ∈ wsX6_undo := by decide +kernel
  have in_X6 : ∀ w ∈ wsX60, w ∈ wsX6_undo := by decide +kernel
  have fl_10 := hts (.fieldLink RX6 10 "DoorDialect" "house" "LDoorDialect$House;") (by decide +kernel)
  have fl_22 := hts (.fieldLink RX6 22 "DoorDialect" "past" "LDoorDialect$Past;") (by decide +kernel)
  have fl_344 := hts (.fieldLink RX6 344 "DoorDialect$Past" "count" "I") (by decide +kernel)
  obtain ⟨g_b, g_k, g_0, g_1, g_2, g_e, g_d, g_t, g_y, g_s, g_h⟩ := id hG
  refine lv_aload_n hx hb dX6_undo_0 rfl (lv_at hl 0 rfl) ?_
  refine va_get (D := D) (ci := 8) (v := .ref ((cAd AD 29) 0)) (C := RX6) (T := TX6) (N := 11) hx hb hts in_X6 hown hK.1 hPo 0 rfl rfl 2 (by decide) fl_22 (fun _ h9 => h9) rfl dX6_undo_1 ?_
  have hP := hPq
  refine va_get (D := D) (ci := 5) (v := .int (nI ch)) (C := RX3) (T := TX3) (N := 3) hx hb hts in_X3 hown hK.1 hP 0 rfl rfl 2 (by decide) fl_344 (fun _ h9 => h9) rfl dX6_undo_4 ?_
  refine nv_if_ne (tgt := 21) hx hb dX6_undo_7 (by decide) (by omega) (fun c1 => ?_) (fun c1 => ?_)
  · refine lv_aload_n hx hb dX6_undo_21 rfl (lv_at hl 0 rfl) ?_
    refine va_get (D := D) (ci := 8) (v := .ref ((cAd AD 1) 0)) (C := RX6) (T := TX6) (N := 11) hx hb hts in_X6 hown hK.1 hPo 0 rfl rfl 0 (by decide) fl_10 (fun _ h9 => h9) rfl dX6_undo_22 ?_
    refine lv_aload_n hx hb dX6_undo_25 rfl (lv_at hl 0 rfl) ?_
    refine va_get (D := D) (ci := 8) (v := .ref ((cAd AD 29) 0)) (C := RX6) (T := TX6) (N := 11) hx hb hts in_X6 hown hK.1 hPo 0 rfl rfl 2 (by decide) fl_22 (fun _ h9 => h9) rfl dX6_undo_26 ?_
    refine nv_kGr (va_runV (As := []) (rest := [.ref ((cAd AD 1) 0)]) ⟨hx, hb, hml, hown, hts⟩ (c_X3_takeLatest l (fun _ _ => cD_of (b := 29) (n := 2) hI cAt_2 (by decide)) (by omega) (by omega) (by omega)) (cwV 0 hts gX6_undo_X3_takeLatest rfl rfl rfl (by decide +kernel) ⟨Nat.le_of_ble_eq_true rfl, Nat.le_of_ble_eq_true rfl⟩) (nt_pVn hT hS (cRg_A hAA (by decide)) hPq (va_recv hK.1 hPq (ci := 5) (q0 := 0) rfl rfl)) rfl rfl hl.1 rfl (lv_room (Nat.le_of_ble_eq_true rfl)) dX6_undo_29 ⟨Nat.le_of_ble_eq_true rfl, Nat.le_of_ble_eq_true rfl⟩) hS (cRg_A hAA (by decide)) (fun H locs hP1 hK1 hS => ?_)
    have hPq := hP1
    have hPo := cOn_Ob.keep hI hK1 hPo (Or.inl (by decide)) (by decide) (by decide)
    have hPh := (cOn_P (cAt_hw 1)).keep hI hK1 hPh (Or.inl (by decide)) (by decide) (by decide)
    have hPs := cOn_Sv.keep hI hK1 hPs (Or.inl (by decide)) (by decide) (by decide)
    have hPw := cOn_Wk.keep hI hK1 hPw (Or.inr (by decide)) (by decide) (by decide)
    have hPt := cOn_Tx.keep hI hK1 hPt (Or.inr (by decide)) (by decide) (by decide)
    have hPi := cOn_In.keep hI hK1 hPi (Or.inr (by decide)) (by decide) (by decide)
    have hring := cOn_Ring.keep hI hK1 hring (Or.inr (by decide)) (by decide) (by decide)
    have hPq : va_P D vwCl (pw9 cR AD f (ch - 1)) H := hPq
    obtain ⟨v, hvk, hPv, hvR⟩ := hring ((f + (ch - 1)) % 9) (by omega)
    refine nv_kGv (va_runV (As := [.ref ((cAd AD (31 + 14 * ((f + (ch - 1)) % 9))) 0)]) (rest := []) ⟨hx, hb, hml, hown, hts⟩ (c_X1_copyFrom l (fun _ => cD_two hI (a := 1) (b := 31 + 14 * ((f + (ch - 1)) % 9)) (by decide) (by omega) (Or.inl (by omega))) hvk) (cwV 1 hts gX6_undo_X1_copyFrom rfl rfl rfl (by decide +kernel) ⟨Nat.le_of_ble_eq_true rfl, Nat.le_of_ble_eq_true rfl⟩) (nt_pVn hT hS (cR2_A hAA (by decide) (by omega)) (va_P.app hPh hPv) (va_recv hK.1 hPh (ci := 3) (q0 := 0) rfl rfl)) rfl rfl hl.1 rfl (lv_room (Nat.le_of_ble_eq_true rfl)) dX6_undo_32 ⟨Nat.le_of_ble_eq_true rfl, Nat.le_of_ble_eq_true rfl⟩) hS (cR2_A hAA (by decide) (by omega)) (fun H locs hP1 hK1 hS => ?_)
    obtain ⟨z, hz, hPzv⟩ := hP1
    have hPh := va_P.left hPzv
    have hPv := va_P.right hPzv
    have hring := hring.read hI (by omega) hK1 hvk hPv hvR
    have hPo := cOn_Ob.keep2 (a := 1) (b := 31 + 14 * ((f + (ch - 1)) % 9)) hI hK1 hPo (Or.inl (by decide)) (Or.inl (by omega)) (by decide) (by decide) (by omega)
    have hPs := cOn_Sv.keep2 (a := 1) (b := 31 + 14 * ((f + (ch - 1)) % 9)) hI hK1 hPs (Or.inr (by decide)) (Or.inl (by omega)) (by decide) (by decide) (by omega)
    have hPw := cOn_Wk.keep2 (a := 1) (b := 31 + 14 * ((f + (ch - 1)) % 9)) hI hK1 hPw (Or.inr (by decide)) (Or.inr (by omega)) (by decide) (by decide) (by omega)
    have hPt := cOn_Tx.keep2 (a := 1) (b := 31 + 14 * ((f + (ch - 1)) % 9)) hI hK1 hPt (Or.inr (by decide)) (Or.inr (by omega)) (by decide) (by decide) (by omega)
    have hPi := cOn_In.keep2 (a := 1) (b := 31 + 14 * ((f + (ch - 1)) % 9)) hI hK1 hPi (Or.inr (by decide)) (Or.inr (by omega)) (by decide) (by decide) (by omega)
    have hPq := (cOn_P (b := 29) (n := 2) cAt_2).keep2 (a := 1) (b := 31 + 14 * ((f + (ch - 1)) % 9)) hI hK1 hPq (Or.inr (by decide)) (Or.inl (by omega)) (by decide) (by decide) (by omega)
    have hw9 := hHw (ch - 1) (by omega)
    have hR := hz.rel (hvR (ch - 1) (by omega) rfl) hw9.1 hw9.2.1 hw9.2.2
    have hk := hz.ok hvk
    refine lv_aload_n hx hb dX6_undo_35 rfl (lv_at hl 0 rfl) ?_
    refine va_get (D := D) (ci := 8) (v := .ref ((cAd AD 29) 0)) (C := RX6) (T := TX6) (N := 11) hx hb hts in_X6 hown hK.1 hPo 0 rfl rfl 2 (by decide) fl_22 (fun _ h9 => h9) rfl dX6_undo_36 ?_
    have hP := hPq
    refine va_get (D := D) (ci := 5) (v := .int (nI (ch - 1))) (C := RX3) (T := TX3) (N := 3) hx hb hts in_X3 hown hK.1 hP 0 rfl rfl 2 (by decide) fl_344 (fun _ h9 => h9) rfl dX6_undo_39 ?_
    exact nv_retGX hq hx hb hr hlocks (Nat.le_of_ble_eq_true rfl) (Nat.le_of_ble_eq_true rfl) (nar_i _) (if_neg c1) (rfl) hS (by rw [if_neg c1]; exact ⟨hPo, ⟨_, hR, hk, hPh⟩, hPi, hPs, ⟨f, hf, hPq, hring.less (by omega)⟩, hPw, hPt⟩) dX6_undo_42
  · exact nv_throwW (ws := wsX6_undo) (ik := 318) (is := 402) (ic := 322) (cls := "java/lang/IllegalStateException") (text := "there is no change that can be undone") (names := ["java/lang/RuntimeException", "java/lang/Exception"]) hq hx hb hl9 hown hts hT xISE_fit ⟨by decide +kernel, by decide +kernel⟩ ⟨by decide +kernel, by decide +kernel⟩ (fun w hw => List.mem_cons_of_mem _ (List.mem_append_right _ hw)) xISE_bad xISE_ok hS (hl.1.trans hml.symm) dX6_undo_10 dX6_undo_13 dX6_undo_14 dX6_undo_17 dX6_undo_20 hout (by decide) (Nat.le_of_ble_eq_true rfl) (Nat.le_of_ble_eq_true rfl) (Nat.le_of_ble_eq_true rfl) hlocks (Nat.le_of_ble_eq_true rfl) (Nat.le_of_ble_eq_true rfl) (by rw [if_pos c1]; exact Nat.one_ne_zero) (by rw [if_pos c1]; rfl) (fun H1 h9 => by rw [if_pos c1, show ch - 1 = ch by omega]; exact (cJ.grow (show cJ D cI cC cD cR AD u Sv Hi In Le hs ch ty wy ln ea ra wd _ from ⟨hPo, hPh, hPi, hPs, ⟨f, hf, hPq, hring⟩, hPw, hPt⟩) h9).W hR hk)

set_option maxHeartbeats 1000000 in
set_option maxRecDepth 100000 in
theorem c_X6_restore (l : Launch) (hl9 : l.stackTraces = false) {D : va_G} {cI cC cD cR : ClassId} {sa : sA} {A : Nat → Prop} {AD : Nat → Nat} {G Sv Hi In Le : Nat → Nat} {b hs ch ty wy ln : Nat} {ea ra wd : Int32} (hG : gWf b G) (hI : cInj AD) (hAA : ∀ i, i < 165 → A (AD i)) (hhs : hs ≤ 1) (hSw : hs = 1 → Sv 0 ≤ 8 ∧ Sv 1 ≤ 6 ∧ Sv 2 ≤ 5) : vx_Met l yX6_restore wsX6_restore ({ frames := 6, cells := 1, slots := 6, locals := 90 }) (va_Pc [.ref (AD 0)] (tPre D [(cI, .int), (cC, .char), (cD, .object "DoorDialect$Door"), (cR, .object "DoorDialect$House")] nN sa A (cW D cI cC cD cR AD G Sv Hi In Le hs ch ty wy ln ea ra wd))) (gQX (if hs = 0 then 1 else 0) (nI (if hs = 0 then 0 else Sv 0)) (cW D cI cC cD cR AD ((if hs = 0 then G else Sv)) Sv Hi In Le hs ((if hs = 0 then ch else 0)) ty wy ln ea ra wd) A) (xQ ["java/lang/IllegalStateException"] (if hs = 0 then 1 else 0) (cW D cI cC cD cR AD ((if hs = 0 then G else Sv)) Sv Hi In Le hs ((if hs = 0 then ch else 0)) ty wy ln ea ra wd) A) 1 6 A := by
  refine nv_metX (cc := cX6_restore) (maxL := 1) (ret := (some .int)) (by decide) rfl (Nat.le_of_ble_eq_true rfl) ?_
  intro p0 e0 s m0 args below meth c0 Q hq hargs hnA hout hpre ls hl
  obtain ⟨hx, hb, hr, hts, hown, hlocks, hml⟩ := hnA
  obtain ⟨hP, hT⟩ := hpre
  have hK := hT.1
  have hown : s.vm.findClass RX6 = some m0.cls := hown
  obtain ⟨hPo, ⟨u, hR, hk, hPh⟩, hPi, hPs, hPp, hPw, hPt⟩ := hP
  have hPo : va_P D vwCl (cOb AD (hs) (wy) (wd) (ea) (ra)) s.heap := hPo
  have hPh : va_P D vwCl (hw cI cD (cAd AD 1) u) s.heap := hPh
  obtain ⟨f, hf, hPq, hring⟩ := hPp
  have hring : cRing D cI cD AD Hi f ch s.heap := hring
  have hPq : va_P D vwCl (pw9 cR AD f ch) s.heap := hPq
  have hl : lv_has ls 1 [(0, .ref (AD 0))] := hl
  have hS : va_S A s.heap s.heap [] := va_S.rf
  have in_X1 : ∀ w ∈ wsX10, w ∈ wsX6_restore := by decide +kernel
  have in_X6 : ∀ w ∈ wsX60, w ∈ wsX6_restore := by decide +kernel
  have fl_10 := hts (.fieldLink RX6 10 "DoorDialect" "house" "LDoorDialect$House;") (by decide +kernel)
  have fl_16 := hts (.fieldLink RX6 16 "DoorDialect" "saved" "LDoorDialect$House;") (by decide +kernel)
  have fl_22 := hts (.fieldLink RX6 22 "DoorDialect" "past" "LDoorDialect$Past;") (by decide +kernel)
  have fl_47 := hts (.fieldLink RX6 47 "DoorDialect" "isSaved" "Z") (by decide +kernel)
  have fl_64 := hts (.fieldLink RX6 64 "DoorDialect$House" "doorCount" "I") (by decide +kernel)
  obtain ⟨g_b, g_k, g_0, g_1, g_2, g_e, g_d, g_t, g_y, g_s, g_h⟩ := id hG
  refine lv_aload_n hx hb dX6_restore_0 rfl (lv_at hl 0 rfl) ?_
  refine va_get (D := D) (ci := 8) (v := .int (nI hs)) (C := RX6) (T := TX6) (N := 11) hx hb hts in_X6 hown hK.1 hPo 0 rfl rfl 6 (by decide) fl_47 (fun _ h9 => h9) rfl dX6_restore_1 ?_
  refine nv_if_ne (tgt := 18) hx hb dX6_restore_4 (by decide) (by omega) (fun c1 => ?_) (fun c1 => ?_)
  · refine lv_aload_n hx hb dX6_restore_18 rfl (lv_at hl 0 rfl) ?_
    refine va_get (D := D) (ci := 8) (v := .ref ((cAd AD 1) 0)) (C := RX6) (T := TX6) (N := 11) hx hb hts in_X6 hown hK.1 hPo 0 rfl rfl 0 (by decide) fl_10 (fun _ h9 => h9) rfl dX6_restore_19 ?_
    refine lv_aload_n hx hb dX6_restore_22 rfl (lv_at hl 0 rfl) ?_
    refine va_get (D := D) (ci := 8) (v := .ref ((cAd AD 15) 0)) (C := RX6) (T := TX6) (N := 11) hx hb hts in_X6 hown hK.1 hPo 0 rfl rfl 1 (by decide) fl_16 (fun _ h9 => h9) rfl dX6_restore_23 ?_
    obtain ⟨v, hvR, hvk, hPv⟩ := hPs
    refine nv_kGv (va_runV (As := [.ref ((cAd AD 15) 0)]) (rest := []) ⟨hx, hb, hml, hown, hts⟩ (c_X1_copyFrom l (fun _ => cD_two hI (a := 1) (b := 15) (by decide) (by decide) (by decide)) hvk) (cwV 1 hts gX6_restore_X1_copyFrom rfl rfl rfl (by decide +kernel) ⟨Nat.le_of_ble_eq_true rfl, Nat.le_of_ble_eq_true rfl⟩) (nt_pVn hT hS (cR2_A hAA (by decide) (by decide)) (va_P.app hPh hPv) (va_recv hK.1 hPh (ci := 3) (q0 := 0) rfl rfl)) rfl rfl hl.1 rfl (lv_room (Nat.le_of_ble_eq_true rfl)) dX6_restore_26 ⟨Nat.le_of_ble_eq_true rfl, Nat.le_of_ble_eq_true rfl⟩) hS (cR2_A hAA (by decide) (by decide)) (fun H locs hP1 hK1 hS => ?_)
    obtain ⟨z, hz, hPzv⟩ := hP1
    have hPh := va_P.left hPzv
    have hPv := va_P.right hPzv
    have hPo := cOn_Ob.keep2 (a := 1) (b := 15) hI hK1 hPo (Or.inl (by decide)) (Or.inl (by decide)) (by decide) (by decide) (by decide)
    have hPw := cOn_Wk.keep2 (a := 1) (b := 15) hI hK1 hPw (Or.inr (by decide)) (Or.inr (by decide)) (by decide) (by decide) (by decide)
    have hPt := cOn_Tx.keep2 (a := 1) (b := 15) hI hK1 hPt (Or.inr (by decide)) (Or.inr (by decide)) (by decide) (by decide) (by decide)
    have hPi := cOn_In.keep2 (a := 1) (b := 15) hI hK1 hPi (Or.inr (by decide)) (Or.inr (by decide)) (by decide) (by decide) (by decide)
    have hPq := (cOn_P (b := 29) (n := 2) cAt_2).keep2 (a := 1) (b := 15) hI hK1 hPq (Or.inr (by decide)) (Or.inr (by decide)) (by decide) (by decide) (by decide)
    have hring := cOn_Ring.keep2 (a := 1) (b := 15) hI hK1 hring (Or.inr (by decide)) (Or.inr (by decide)) (by decide) (by decide) (by decide)
    have hw9 := hSw (by omega)
    have hvR := hvR (by omega)
    have hR := hz.rel hvR hw9.1 hw9.2.1 hw9.2.2
    have hk := hz.ok hvk
    have hPs : cSv D cI cD AD hs Sv H := ⟨v, fun _ => hvR, hvk, hPv⟩
    obtain ⟨u, hR, hk, hPh⟩ : ∃ u, hRel u Sv ∧ hOk u ∧ va_P D vwCl (hw cI cD (cAd AD 1) u) H := ⟨z, hR, hk, hPh⟩
    refine lv_aload_n hx hb dX6_restore_29 rfl (lv_at hl 0 rfl) ?_
    refine va_get (D := D) (ci := 8) (v := .ref ((cAd AD 29) 0)) (C := RX6) (T := TX6) (N := 11) hx hb hts in_X6 hown hK.1 hPo 0 rfl rfl 2 (by decide) fl_22 (fun _ h9 => h9) rfl dX6_restore_30 ?_
    refine nv_kGv (va_runV (As := []) (rest := []) ⟨hx, hb, hml, hown, hts⟩ (c_X3_forgetAll l (fun _ _ => cD_of (b := 29) (n := 2) hI cAt_2 (by decide))) (cwV 0 hts gX6_restore_X3_forgetAll rfl rfl rfl (by decide +kernel) ⟨Nat.le_of_ble_eq_true rfl, Nat.le_of_ble_eq_true rfl⟩) (nt_pVn hT hS (cRg_A hAA (by decide)) hPq (va_recv hK.1 hPq (ci := 5) (q0 := 0) rfl rfl)) rfl rfl hl.1 rfl (lv_room (Nat.le_of_ble_eq_true rfl)) dX6_restore_33 ⟨Nat.le_of_ble_eq_true rfl, Nat.le_of_ble_eq_true rfl⟩) hS (cRg_A hAA (by decide)) (fun H locs hP1 hK1 hS => ?_)
    have hPq := hP1
    have hPo := cOn_Ob.keep hI hK1 hPo (Or.inl (by decide)) (by decide) (by decide)
    have hPh := (cOn_P (cAt_hw 1)).keep hI hK1 hPh (Or.inl (by decide)) (by decide) (by decide)
    have hPs := cOn_Sv.keep hI hK1 hPs (Or.inl (by decide)) (by decide) (by decide)
    have hPw := cOn_Wk.keep hI hK1 hPw (Or.inr (by decide)) (by decide) (by decide)
    have hPt := cOn_Tx.keep hI hK1 hPt (Or.inr (by decide)) (by decide) (by decide)
    have hPi := cOn_In.keep hI hK1 hPi (Or.inr (by decide)) (by decide) (by decide)
    have hring := cOn_Ring.keep hI hK1 hring (Or.inr (by decide)) (by decide) (by decide)
    refine lv_aload_n hx hb dX6_restore_36 rfl (lv_at hl 0 rfl) ?_
    refine va_get (D := D) (ci := 8) (v := .ref ((cAd AD 1) 0)) (C := RX6) (T := TX6) (N := 11) hx hb hts in_X6 hown hK.1 hPo 0 rfl rfl 0 (by decide) fl_10 (fun _ h9 => h9) rfl dX6_restore_37 ?_
    refine va_get (D := D) (ci := 3) (v := .int (nI (hs_c u 0))) (C := RX1) (T := TX1) (N := 12) hx hb hts in_X1 hown hK.1 hPh 0 rfl rfl 5 (by decide) fl_64 (fun _ h9 => h9) rfl dX6_restore_40 ?_
    refine nv_to (Sv 0) (congrArg nI ((hR.c0))) ?_
    exact nv_retGX hq hx hb hr hlocks (Nat.le_of_ble_eq_true rfl) (Nat.le_of_ble_eq_true rfl) (nar_i _) (if_neg c1) (by rw [if_neg c1]) hS (by rw [if_neg c1, if_neg c1]; exact ⟨hPo, ⟨_, hR, hk, hPh⟩, hPi, hPs, ⟨f, hf, hPq, hring.none⟩, hPw, hPt⟩) dX6_restore_43
  · exact nv_throwW (ws := wsX6_restore) (ik := 318) (is := 407) (ic := 322) (cls := "java/lang/IllegalStateException") (text := "there is no snapshot") (names := ["java/lang/RuntimeException", "java/lang/Exception"]) hq hx hb hl9 hown hts hT xISE_fit ⟨by decide +kernel, by decide +kernel⟩ ⟨by decide +kernel, by decide +kernel⟩ (fun w hw => List.mem_cons_of_mem _ (List.mem_append_right _ hw)) xISE_bad xISE_ok hS (hl.1.trans hml.symm) dX6_restore_7 dX6_restore_10 dX6_restore_11 dX6_restore_14 dX6_restore_17 hout (by decide) (Nat.le_of_ble_eq_true rfl) (Nat.le_of_ble_eq_true rfl) (Nat.le_of_ble_eq_true rfl) hlocks (Nat.le_of_ble_eq_true rfl) (Nat.le_of_ble_eq_true rfl) (by rw [if_pos c1]; exact Nat.one_ne_zero) (by rw [if_pos c1]; rfl) (fun H1 h9 => by rw [if_pos c1, if_pos c1]; exact (cJ.grow (show cJ D cI cC cD cR AD u Sv Hi In Le hs ch ty wy ln ea ra wd _ from ⟨hPo, hPh, hPi, hPs, ⟨f, hf, hPq, hring⟩, hPw, hPt⟩) h9).W hR hk)

set_option maxHeartbeats 1000000 in
set_option maxRecDepth 100000 in
theorem c_X6_snapshot (l : Launch) {D : va_G} {cI cC cD cR : ClassId} {sa : sA} {A : Nat → Prop} {AD : Nat → Nat} {G Sv Hi In Le : Nat → Nat} {b hs ch ty wy ln : Nat} {ea ra wd : Int32} (hG : gWf b G) (hI : cInj AD) (hAA : ∀ i, i < 165 → A (AD i))  : Met l yX6_snapshot wsX6_snapshot ({ frames := 2, cells := 0, slots := 0, locals := 90 }) (va_Pc [.ref (AD 0)] (tPre D [(cI, .int), (cC, .char), (cD, .object "DoorDialect$Door"), (cR, .object "DoorDialect$House")] nN sa A (cW D cI cC cD cR AD G Sv Hi In Le hs ch ty wy ln ea ra wd))) (gQ (nI (G 0)) ((cW D cI cC cD cR AD G G Hi In Le 1 ch ty wy ln ea ra wd)) A) 0 0 A := by
  refine nv_met (cc := cX6_snapshot) (maxL := 1) (ret := (some .int)) (by decide) rfl (Nat.le_of_ble_eq_true rfl) ?_
  intro p0 e0 s m0 args below meth c0 Q hq hargs hnA hpre ls hl
  obtain ⟨hx, hb, hr, hts, hown, hlocks, hml⟩ := hnA
  obtain ⟨hP, hT⟩ := hpre
  have hK := hT.1
  have hown : s.vm.findClass RX6 = some m0.cls := hown
  obtain ⟨hPo, ⟨u, hR, hk, hPh⟩, hPi, hPs, hPp, hPw, hPt⟩ := hP
  have hPo : va_P D vwCl (cOb AD (hs) (wy) (wd) (ea) (ra)) s.heap := hPo
  have hPh : va_P D vwCl (hw cI cD (cAd AD 1) u) s.heap := hPh
  obtain ⟨f, hf, hPq, hring⟩ := hPp
  have hring : cRing D cI cD AD Hi f ch s.heap := hring
  have hPq : va_P D vwCl (pw9 cR AD f ch) s.heap := hPq
  have hl : lv_has ls 1 [(0, .ref (AD 0))] := hl
  have hS : va_S A s.heap s.heap [] := va_S.rf
  have in_X1 : ∀ w ∈ wsX10, w ∈ wsX6_snapshot := by decide +kernel
  have in_X6 : ∀ w ∈ wsX60, w ∈ wsX6_snapshot := by decide +kernel
  have fl_10 := hts (.fieldLink RX6 10 "DoorDialect" "house" "LDoorDialect$House;") (by decide +kernel)
  have fl_16 := hts (.fieldLink RX6 16 "DoorDialect" "saved" "LDoorDialect$House;") (by decide +kernel)
  have fl_47 := hts (.fieldLink RX6 47 "DoorDialect" "isSaved" "Z") (by decide +kernel)
  have fl_64 := hts (.fieldLink RX6 64 "DoorDialect$House" "doorCount" "I") (by decide +kernel)
  obtain ⟨g_b, g_k, g_0, g_1, g_2, g_e, g_d, g_t, g_y, g_s, g_h⟩ := id hG
  refine lv_aload_n hx hb dX6_snapshot_0 rfl (lv_at hl 0 rfl) ?_
  refine va_get (D := D) (ci := 8) (v := .ref ((cAd AD 15) 0)) (C := RX6) (T := TX6) (N := 11) hx hb hts in_X6 hown hK.1 hPo 0 rfl rfl 1 (by decide) fl_16 (fun _ h9 => h9) rfl dX6_snapshot_1 ?_
  refine lv_aload_n hx hb dX6_snapshot_4 rfl (lv_at hl 0 rfl) ?_
  refine va_get (D := D) (ci := 8) (v := .ref ((cAd AD 1) 0)) (C := RX6) (T := TX6) (N := 11) hx hb hts in_X6 hown hK.1 hPo 0 rfl rfl 0 (by decide) fl_10 (fun _ h9 => h9) rfl dX6_snapshot_5 ?_
  obtain ⟨v, hvR, hvk, hPv⟩ := hPs
  refine nv_kGv (va_runV (As := [.ref ((cAd AD 1) 0)]) (rest := []) ⟨hx, hb, hml, hown, hts⟩ (c_X1_copyFrom l (fun _ => cD_two hI (a := 15) (b := 1) (by decide) (by decide) (by decide)) hk) (cwV 1 hts gX6_snapshot_X1_copyFrom rfl rfl rfl (by decide +kernel) ⟨Nat.le_of_ble_eq_true rfl, Nat.le_of_ble_eq_true rfl⟩) (nt_pVn hT hS (cR2_A hAA (by decide) (by decide)) (va_P.app hPv hPh) (va_recv hK.1 hPv (ci := 3) (q0 := 0) rfl rfl)) rfl rfl hl.1 rfl (lv_room (Nat.le_of_ble_eq_true rfl)) dX6_snapshot_8 ⟨Nat.zero_le _, Nat.zero_le _⟩) hS (cR2_A hAA (by decide) (by decide)) (fun H locs hP1 hK1 hS => ?_)
  obtain ⟨z, hz, hPzv⟩ := hP1
  have hPh := va_P.right hPzv
  have hPv := va_P.left hPzv
  have hPo := cOn_Ob.keep2 (a := 15) (b := 1) hI hK1 hPo (Or.inl (by decide)) (Or.inl (by decide)) (by decide) (by decide) (by decide)
  have hPw := cOn_Wk.keep2 (a := 15) (b := 1) hI hK1 hPw (Or.inr (by decide)) (Or.inr (by decide)) (by decide) (by decide) (by decide)
  have hPt := cOn_Tx.keep2 (a := 15) (b := 1) hI hK1 hPt (Or.inr (by decide)) (Or.inr (by decide)) (by decide) (by decide) (by decide)
  have hPi := cOn_In.keep2 (a := 15) (b := 1) hI hK1 hPi (Or.inr (by decide)) (Or.inr (by decide)) (by decide) (by decide) (by decide)
  have hPq := (cOn_P (b := 29) (n := 2) cAt_2).keep2 (a := 15) (b := 1) hI hK1 hPq (Or.inr (by decide)) (Or.inr (by decide)) (by decide) (by decide) (by decide)
  have hring := cOn_Ring.keep2 (a := 15) (b := 1) hI hK1 hring (Or.inr (by decide)) (Or.inr (by decide)) (by decide) (by decide) (by decide)
  have hPs : cSv D cI cD AD 1 G H := ⟨_, fun _ => hz.rel hR (by omega) (by omega) (by omega), hz.ok hk, hPv⟩
  refine lv_aload_n hx hb dX6_snapshot_11 rfl (lv_at hl 0 rfl) ?_
  refine lv_iconst (v := nI 1) hx hb dX6_snapshot_12 (by decide) ?_
  refine nv_putF (D := D) (ci := 8) (v := .int (nI 1)) (ty := .boolean) (C := RX6) (T := TX6) (N := 11) hx hb hts in_X6 tyX6 tyX6_ok nmX6 hown hK.1 hPo (hAA 0 (by decide)) hS rfl 6 (by decide) fl_47 (fun _ h9 => h9) rfl (by decide +kernel) (nar_z (by omega)) (fit_z (by omega)) (Nat.le_of_ble_eq_true rfl) dX6_snapshot_13 (fun H locs hPo hK9 hS => ?_)
  have hPo : va_P D vwCl (cOb AD (1) (wy) (wd) (ea) (ra)) H := hPo
  have hK1 : cFr (cRg AD 0 1) _ H := hK9.sub (fun q h9 => by rw [h9]; exact cRg_sg (by decide))
  have hPh := (cOn_P (cAt_hw 1)).keep hI hK1 hPh (Or.inr (by decide)) (by decide) (by decide)
  have hPs := cOn_Sv.keep hI hK1 hPs (Or.inr (by decide)) (by decide) (by decide)
  have hPw := cOn_Wk.keep hI hK1 hPw (Or.inr (by decide)) (by decide) (by decide)
  have hPt := cOn_Tx.keep hI hK1 hPt (Or.inr (by decide)) (by decide) (by decide)
  have hPi := cOn_In.keep hI hK1 hPi (Or.inr (by decide)) (by decide) (by decide)
  have hPq := (cOn_P (b := 29) (n := 2) cAt_2).keep hI hK1 hPq (Or.inr (by decide)) (by decide) (by decide)
  have hring := cOn_Ring.keep hI hK1 hring (Or.inr (by decide)) (by decide) (by decide)
  refine lv_aload_n hx hb dX6_snapshot_16 rfl (lv_at hl 0 rfl) ?_
  refine va_get (D := D) (ci := 8) (v := .ref ((cAd AD 1) 0)) (C := RX6) (T := TX6) (N := 11) hx hb hts in_X6 hown hK.1 hPo 0 rfl rfl 0 (by decide) fl_10 (fun _ h9 => h9) rfl dX6_snapshot_17 ?_
  refine va_get (D := D) (ci := 3) (v := .int (nI (hs_c u 0))) (C := RX1) (T := TX1) (N := 12) hx hb hts in_X1 hown hK.1 hPh 0 rfl rfl 5 (by decide) fl_64 (fun _ h9 => h9) rfl dX6_snapshot_20 ?_
  refine nv_to (G 0) (congrArg nI ((hR.c0))) ?_
  exact nv_retG hq hx hb hr hlocks (nar_i _) (rfl) hS (⟨hPo, ⟨u, hR, hk, hPh⟩, hPi, hPs, ⟨f, hf, hPq, hring⟩, hPw, hPt⟩) dX6_snapshot_23
