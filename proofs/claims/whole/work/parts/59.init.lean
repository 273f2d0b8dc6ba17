/-! new objects of the class -/
section NQ
variable {p : Program} {l : Launch} {e : Env} {R : Room} {s : State} {m : MethodId} {args : Array Value} {below : List Frame} {meth : Method} {c : Code} {H : Heap} {locs : List Loc} {cells slots : Nat} {Q : State → Prop}
variable {cc : ByteArray} {pc : Nat} {ls : Array Slot} {rest : List Value} {D : va_G} {A : Nat → Prop} {H0 : Heap} {cl : List vw_C} {ws : va_W} {tys : List (ClassId × FieldType)}
theorem nv_newq (hx : p.tables.exec = Jvm.exec) (hb : c.code = cc) {own C : String} {index : Nat} (hown : s.vm.findClass own = some m.cls) (hcl : (Cond.classLink own index C).before args s = true) (hover : va_AO C s) (hK : va_K D cl tys s) (hP : va_P D cl ws H) (hD : va_D A ws) (hS : va_S A H0 H locs) (hA : ∀ q, H0.size ≤ q → A q) (t0 : Nat) {cA : ClassId} (ht : tys[t0]? = some (cA, .object C))
    {n : Nat} (hn : n < 2 ^ 31) (hbytes : n * 4 ≤ 536870912) (hcells : cells + 1 ≤ R.cells) (hslots : slots + n ≤ R.slots) (hdg : decode cc pc = .ok (.anewarray index, 3))
    (kk : ∀ (q : Nat) (H1 : Heap), va_P D cl (ws ++ [(q, .inl (cA, n, .inr (.inr (.inr (.inr (fun _ => none))))))]) H1 → va_D A (ws ++ [(q, .inl (cA, n, .inr (.inr (.inr (.inr (fun _ => none))))))]) → va_S A H0 H1 locs →
      W p l e R s m args below meth c H1 locs (cells + 1) (slots + n) Q (F0 m (pc + 3) ls (.ref q :: rest))) : W p l e R s m args below meth c H locs cells slots Q (F0 m pc ls (.int (nI n) :: rest)) := by
  refine va_newq hx hb hown hcl hover hK hP hD hS hA (fun q => ?_) (nI_clamp hn) hbytes hcells hslots hdg (fun q cB H1 hK1 hP1 hD1 hS1 => ?_)
  · have q1 := Int32.lt_iff_toInt_lt.mp q
    rw [nI_toInt hn, Int32.toInt_zero] at q1
    omega
  · obtain ⟨_, _, _, _, _, f1⟩ := (hK.2 t0 _ ht).2
    obtain ⟨_, _, _, _, _, f2⟩ := (hK1.2 tys.length (cB, .object C) (by rw [List.getElem?_append_right (Nat.le_refl _), Nat.sub_self]; rfl)).2
    have e : cB = cA := Option.some.inj (f2.symm.trans f1)
    subst e
    exact kk q H1 hP1 hD1 hS1
/-- one cell told anew -/
theorem nd_set {H1 : Heap} {d k : Nat} {x0 x1 : va_E} (hP : va_P D cl ws H) (hD : va_D A ws) (hk : ws[k]? = some (d, x0)) (hK : cFr (fun q => q = d) H H1) (h1 : va_P D cl [(d, x1)] H1) : va_P D cl (ws.set k (d, x1)) H1 := by
  intro j q hj
  by_cases e : j = k
  · subst e
    rw [List.getElem?_set_self (List.getElem?_eq_some_iff.mp hk).1] at hj
    cases hj
    exact h1 0 _ rfl
  · rw [List.getElem?_set_ne (Ne.symm e)] at hj
    exact (hP j q hj).kept (hK q.1 (vx_lt hP hj) (fun q9 => e (hD.1 j k q (d, x0) hj hk q9)))
theorem va_P_arq {H : Heap} (hP : va_P D cl ws H) (q : Nat) {a : Nat} {cA : ClassId} {n : Nat} {f : Nat → Option Nat} (g : Nat → Option Nat) (ha : ws[q]? = some (a, .inl (cA, n, .inr (.inr (.inr (.inr f)))))) (h : ∀ k, k < n → f k = g k) : va_P D cl (ws.set q (a, .inl (cA, n, .inr (.inr (.inr (.inr g)))))) H := by
  have hl := (List.getElem?_eq_some_iff.mp ha).1
  intro k x hk
  by_cases hkq : k = q
  · subst hkq
    rw [List.getElem?_set_self hl] at hk
    cases hk
    have h1 := hP k _ ha
    show H[a]? = some (vp_cell cA _)
    have h2 : H[a]? = some (vp_cell cA _) := h1
    rw [h2]
    congr 1
    rw [vp_cell_q, vp_cell_q]
    unfold arrV
    congr 1
    apply Array.ext
    · simp
    · intro i h3 h4
      simp at h3 h4 ⊢
      rw [h i (by omega)]
  · rw [List.getElem?_set_ne (Ne.symm hkq)] at hk
    exact hP k x hk
end NQ

set_option maxHeartbeats 1000000 in
set_option maxRecDepth 100000 in
theorem c_X4_init (l : Launch) {D : va_G} {cI cC cD cR : ClassId} {sa : sA} {A : Nat → Prop} {h : Nat} (n0 : Nat) (hA0 : ∀ q, n0 ≤ q → A q) (hD : va_D A [(h, .inr (6, [.null, .int (nI 0)]))])  : Met l yX4_init wsX4_init ({ frames := 1, cells := 1, slots := 16, locals := 20 }) (va_Pc [.ref h] (tPre D [(cI, .int), (cC, .char), (cD, .object "DoorDialect$Door"), (cR, .object "DoorDialect$House")] nN sa A (fun H => n0 ≤ H.size ∧ va_P D vwCl [(h, .inr (6, [.null, .int (nI 0)]))] H))) (va_Qv (fun (ad : Nat → Nat) => ad 0 = h) (fun ad t => va_P D vwCl (tw cC ad (fun _ => 0) 0) t.heap ∧ va_D A (tw cC ad (fun _ => 0) 0)) A) 1 16 A := by
  refine nv_metN (cc := cX4_init) (maxL := 1) (ret := none) (by decide) rfl (Nat.le_of_ble_eq_true rfl) ?_
  intro p0 e0 s m0 args below meth c0 Q hq hargs hin hnA hpre ls hl
  obtain ⟨hx, hb, hr, hts, hown, hlocks, hml⟩ := hnA
  obtain ⟨⟨hn0, hP⟩, hT⟩ := hpre
  have hA : ∀ q, s.heap.size ≤ q → A q := fun q hq9 => hA0 q (Nat.le_trans hn0 hq9)
  have hK := hT.1
  have hown : s.vm.findClass RX4 = some m0.cls := hown
  have hP : va_P D vwCl [(h, .inr (6, [.null, .int (nI 0)]))] s.heap := hP
  have hl : lv_has ls 1 [(0, .ref h)] := hl
  have hS : va_S A s.heap s.heap [] := va_S.rf
  have in_X4 : ∀ w ∈ wsX40, w ∈ wsX4_init := by decide +kernel
  have fl_7 := hts (.fieldLink RX4 7 "DoorDialect$Text" "signs" "[C") (by decide +kernel)
  refine lv_aload_n hx hb dX4_init_0 rfl (lv_at hl 0 rfl) ?_
  refine W.objInit hx hb hown (hts (.methodLink RX4 1 objectInit) (by decide +kernel)) (hts (.instanceMethod objectInit) (by decide +kernel)) (hts (.code objectInit ⟨#[0xb1]⟩ 1 none) (by decide +kernel)) rfl (by rw [hml]; exact hl.1) rfl dX4_init_1 (Nat.le_of_ble_eq_true rfl) (Nat.le_of_ble_eq_true rfl) ?_
  refine W.eq (g2 := F0 m0 4 ls []) rfl ?_
  refine lv_aload_n hx hb dX4_init_4 rfl (lv_at hl 0 rfl) ?_
  refine lv_bipush (v := nI 16) hx hb dX4_init_5 (by decide) ?_
  refine nv_newa (atype := .char) (ty := .char) (n := 16) (a0 := (16, .inl (gN (fun _ => 0)))) hx hb (hts (.arrayClass .char) (by decide +kernel)) rfl hK.1 hP hD hS hA 1 rfl (fun _ => rfl) (by decide) (Nat.le_of_ble_eq_true rfl) (Nat.le_of_ble_eq_true rfl) (Nat.le_of_ble_eq_true rfl) dX4_init_7 (fun a1 H hP hD hS => ?_)
  have hP : va_P D vwCl [(h, .inr (6, [.null, .int (nI 0)])), (a1, .inl (cC, 16, .inl (gN ((fun _ => 0)))))] H := hP
  have hD : va_D A [(h, .inr (6, [.null, .int (nI 0)])), (a1, .inl (cC, 16, .inl (gN ((fun _ => 0)))))] := hD
  refine va_putF (D := D) (ci := 6) (v := .ref a1) (ty := tyX4 0) (C := RX4) (T := TX4) (N := 2) hx hb hts in_X4 tyX4 tyX4_ok nmX4 hown hK.1 hP hD hS 0 rfl rfl 0 (by decide) fl_7 (fun _ h9 => h9) rfl hin rfl (by decide +kernel) rfl rfl (Nat.le_of_ble_eq_true rfl) dX4_init_9 (fun H locs hP hD hS => ?_)
  have hP : va_P D vwCl [(h, .inr (6, [.ref a1, .int (nI 0)])), (a1, .inl (cC, 16, .inl (gN ((fun _ => 0)))))] H := hP
  have hD : va_D A [(h, .inr (6, [.ref a1, .int (nI 0)])), (a1, .inl (cC, 16, .inl (gN ((fun _ => 0)))))] := hD
  exact W.mono hq (W.vret hx hb hr (fun t ht _ => ⟨⟨(fun i => [h, a1].getD i 0), rfl, rfl, by subst ht; exact ⟨hP, hD⟩⟩, hS.F ht⟩) hS.2.2 dX4_init_12 hlocks)

set_option maxHeartbeats 1000000 in
set_option maxRecDepth 100000 in
theorem c_X5_init (l : Launch) {D : va_G} {cI cC cD cR : ClassId} {sa : sA} {A : Nat → Prop} {h : Nat} (n0 : Nat) (hA0 : ∀ q, n0 ≤ q → A q) (hD : va_D A [(h, .inr (7, [.null, .null]))])  : Met l yX5_init wsX5_init ({ frames := 1, cells := 2, slots := 12, locals := 20 }) (va_Pc [.ref h] (tPre D [(cI, .int), (cC, .char), (cD, .object "DoorDialect$Door"), (cR, .object "DoorDialect$House")] nN sa A (fun H => n0 ≤ H.size ∧ va_P D vwCl [(h, .inr (7, [.null, .null]))] H))) (va_Qv (fun (ad : Nat → Nat) => ad 0 = h) (fun ad t => va_P D vwCl (wk cI ad (fun _ => 0) (fun _ => 0)) t.heap ∧ va_D A (wk cI ad (fun _ => 0) (fun _ => 0))) A) 2 12 A := by
  refine nv_metN (cc := cX5_init) (maxL := 1) (ret := none) (by decide) rfl (Nat.le_of_ble_eq_true rfl) ?_
  intro p0 e0 s m0 args below meth c0 Q hq hargs hin hnA hpre ls hl
  obtain ⟨hx, hb, hr, hts, hown, hlocks, hml⟩ := hnA
  obtain ⟨⟨hn0, hP⟩, hT⟩ := hpre
  have hA : ∀ q, s.heap.size ≤ q → A q := fun q hq9 => hA0 q (Nat.le_trans hn0 hq9)
  have hK := hT.1
  have hown : s.vm.findClass RX5 = some m0.cls := hown
  have hP : va_P D vwCl [(h, .inr (7, [.null, .null]))] s.heap := hP
  have hl : lv_has ls 1 [(0, .ref h)] := hl
  have hS : va_S A s.heap s.heap [] := va_S.rf
  have in_X5 : ∀ w ∈ wsX50, w ∈ wsX5_init := by decide +kernel
  have fl_9 := hts (.fieldLink RX5 9 "DoorDialect$Walk" "passed" "[I") (by decide +kernel)
  have fl_15 := hts (.fieldLink RX5 15 "DoorDialect$Walk" "queue" "[I") (by decide +kernel)
  refine lv_aload_n hx hb dX5_init_0 rfl (lv_at hl 0 rfl) ?_
  refine W.objInit hx hb hown (hts (.methodLink RX5 3 objectInit) (by decide +kernel)) (hts (.instanceMethod objectInit) (by decide +kernel)) (hts (.code objectInit ⟨#[0xb1]⟩ 1 none) (by decide +kernel)) rfl (by rw [hml]; exact hl.1) rfl dX5_init_1 (Nat.le_of_ble_eq_true rfl) (Nat.le_of_ble_eq_true rfl) ?_
  refine W.eq (g2 := F0 m0 4 ls []) rfl ?_
  refine lv_aload_n hx hb dX5_init_4 rfl (lv_at hl 0 rfl) ?_
  refine lv_bipush (v := nI 6) hx hb dX5_init_5 (by decide) ?_
  refine nv_newa (atype := .int) (ty := .int) (n := 6) (a0 := (6, .inl ((fun _ => 0)))) hx hb (hts (.arrayClass .int) (by decide +kernel)) rfl hK.1 hP hD hS hA 0 rfl (fun _ => rfl) (by decide) (Nat.le_of_ble_eq_true rfl) (Nat.le_of_ble_eq_true rfl) (Nat.le_of_ble_eq_true rfl) dX5_init_7 (fun a1 H hP hD hS => ?_)
  have hP : va_P D vwCl [(h, .inr (7, [.null, .null])), (a1, .inl (cI, 6, .inl ((fun _ => 0))))] H := hP
  have hD : va_D A [(h, .inr (7, [.null, .null])), (a1, .inl (cI, 6, .inl ((fun _ => 0))))] := hD
  refine va_putF (D := D) (ci := 7) (v := .ref a1) (ty := tyX5 0) (C := RX5) (T := TX5) (N := 2) hx hb hts in_X5 tyX5 tyX5_ok nmX5 hown hK.1 hP hD hS 0 rfl rfl 0 (by decide) fl_9 (fun _ h9 => h9) rfl hin rfl (by decide +kernel) rfl rfl (Nat.le_of_ble_eq_true rfl) dX5_init_9 (fun H locs hP hD hS => ?_)
  have hP : va_P D vwCl [(h, .inr (7, [.ref a1, .null])), (a1, .inl (cI, 6, .inl ((fun _ => 0))))] H := hP
  have hD : va_D A [(h, .inr (7, [.ref a1, .null])), (a1, .inl (cI, 6, .inl ((fun _ => 0))))] := hD
  refine lv_aload_n hx hb dX5_init_12 rfl (lv_at hl 0 rfl) ?_
  refine lv_bipush (v := nI 6) hx hb dX5_init_13 (by decide) ?_
  refine nv_newa (atype := .int) (ty := .int) (n := 6) (a0 := (6, .inl (gN (fun _ => 0)))) hx hb (hts (.arrayClass .int) (by decide +kernel)) rfl hK.1 hP hD hS hA 0 rfl (fun _ => rfl) (by decide) (Nat.le_of_ble_eq_true rfl) (Nat.le_of_ble_eq_true rfl) (Nat.le_of_ble_eq_true rfl) dX5_init_15 (fun a2 H hP hD hS => ?_)
  have hP : va_P D vwCl [(h, .inr (7, [.ref a1, .null])), (a1, .inl (cI, 6, .inl ((fun _ => 0)))), (a2, .inl (cI, 6, .inl (gN ((fun _ => 0)))))] H := hP
  have hD : va_D A [(h, .inr (7, [.ref a1, .null])), (a1, .inl (cI, 6, .inl ((fun _ => 0)))), (a2, .inl (cI, 6, .inl (gN ((fun _ => 0)))))] := hD
  refine va_putF (D := D) (ci := 7) (v := .ref a2) (ty := tyX5 1) (C := RX5) (T := TX5) (N := 2) hx hb hts in_X5 tyX5 tyX5_ok nmX5 hown hK.1 hP hD hS 0 rfl rfl 1 (by decide) fl_15 (fun _ h9 => h9) rfl hin rfl (by decide +kernel) rfl rfl (Nat.le_of_ble_eq_true rfl) dX5_init_17 (fun H locs hP hD hS => ?_)
  have hP : va_P D vwCl [(h, .inr (7, [.ref a1, .ref a2])), (a1, .inl (cI, 6, .inl ((fun _ => 0)))), (a2, .inl (cI, 6, .inl (gN ((fun _ => 0)))))] H := hP
  have hD : va_D A [(h, .inr (7, [.ref a1, .ref a2])), (a1, .inl (cI, 6, .inl ((fun _ => 0)))), (a2, .inl (cI, 6, .inl (gN ((fun _ => 0)))))] := hD
  exact W.mono hq (W.vret hx hb hr (fun t ht _ => ⟨⟨(fun i => [h, a1, a2].getD i 0), rfl, rfl, by subst ht; exact ⟨hP, hD⟩⟩, hS.F ht⟩) hS.2.2 dX5_init_20 hlocks)

set_option maxHeartbeats 1000000 in
set_option maxRecDepth 100000 in
theorem c_X2_init (l : Launch) {D : va_G} {cI cC cD cR : ClassId} {sa : sA} {A : Nat → Prop} {h : Nat} (n0 : Nat) (hA0 : ∀ q, n0 ≤ q → A q) (hD : va_D A [(h, .inr (4, [.null, .int (nI 0), .int (nI 0), .int (nI 0), .null, .int (nI 0)]))])  : Met l yX2_init wsX2_init ({ frames := 1, cells := 2, slots := 65, locals := 20 }) (va_Pc [.ref h] (tPre D [(cI, .int), (cC, .char), (cD, .object "DoorDialect$Door"), (cR, .object "DoorDialect$House")] nN sa A (fun H => n0 ≤ H.size ∧ va_P D vwCl [(h, .inr (4, [.null, .int (nI 0), .int (nI 0), .int (nI 0), .null, .int (nI 0)]))] H))) (va_Qv (fun (ad : Nat → Nat) => ad 0 = h) (fun ad t => va_P D vwCl (iw cI cC ad (fun _ => 0) (fun _ => 0) 0 0 0 0) t.heap ∧ va_D A (iw cI cC ad (fun _ => 0) (fun _ => 0) 0 0 0 0)) A) 2 65 A := by
  refine nv_metN (cc := cX2_init) (maxL := 1) (ret := none) (by decide) rfl (Nat.le_of_ble_eq_true rfl) ?_
  intro p0 e0 s m0 args below meth c0 Q hq hargs hin hnA hpre ls hl
  obtain ⟨hx, hb, hr, hts, hown, hlocks, hml⟩ := hnA
  obtain ⟨⟨hn0, hP⟩, hT⟩ := hpre
  have hA : ∀ q, s.heap.size ≤ q → A q := fun q hq9 => hA0 q (Nat.le_trans hn0 hq9)
  have hK := hT.1
  have hown : s.vm.findClass RX2 = some m0.cls := hown
  have hP : va_P D vwCl [(h, .inr (4, [.null, .int (nI 0), .int (nI 0), .int (nI 0), .null, .int (nI 0)]))] s.heap := hP
  have hl : lv_has ls 1 [(0, .ref h)] := hl
  have hS : va_S A s.heap s.heap [] := va_S.rf
  have in_X2 : ∀ w ∈ wsX20, w ∈ wsX2_init := by decide +kernel
  have fl_9 := hts (.fieldLink RX2 9 "DoorDialect$Input" "values" "[I") (by decide +kernel)
  have fl_15 := hts (.fieldLink RX2 15 "DoorDialect$Input" "signs" "[C") (by decide +kernel)
  refine lv_aload_n hx hb dX2_init_0 rfl (lv_at hl 0 rfl) ?_
  refine W.objInit hx hb hown (hts (.methodLink RX2 3 objectInit) (by decide +kernel)) (hts (.instanceMethod objectInit) (by decide +kernel)) (hts (.code objectInit ⟨#[0xb1]⟩ 1 none) (by decide +kernel)) rfl (by rw [hml]; exact hl.1) rfl dX2_init_1 (Nat.le_of_ble_eq_true rfl) (Nat.le_of_ble_eq_true rfl) ?_
  refine W.eq (g2 := F0 m0 4 ls []) rfl ?_
  refine lv_aload_n hx hb dX2_init_4 rfl (lv_at hl 0 rfl) ?_
  refine lv_iconst (v := nI 5) hx hb dX2_init_5 (by decide) ?_
  refine nv_newa (atype := .int) (ty := .int) (n := 5) (a0 := (5, .inl ((fun _ => 0)))) hx hb (hts (.arrayClass .int) (by decide +kernel)) rfl hK.1 hP hD hS hA 0 rfl (fun _ => rfl) (by decide) (Nat.le_of_ble_eq_true rfl) (Nat.le_of_ble_eq_true rfl) (Nat.le_of_ble_eq_true rfl) dX2_init_6 (fun a1 H hP hD hS => ?_)
  have hP : va_P D vwCl [(h, .inr (4, [.null, .int (nI 0), .int (nI 0), .int (nI 0), .null, .int (nI 0)])), (a1, .inl (cI, 5, .inl ((fun _ => 0))))] H := hP
  have hD : va_D A [(h, .inr (4, [.null, .int (nI 0), .int (nI 0), .int (nI 0), .null, .int (nI 0)])), (a1, .inl (cI, 5, .inl ((fun _ => 0))))] := hD
  refine va_putF (D := D) (ci := 4) (v := .ref a1) (ty := tyX2 0) (C := RX2) (T := TX2) (N := 6) hx hb hts in_X2 tyX2 tyX2_ok nmX2 hown hK.1 hP hD hS 0 rfl rfl 0 (by decide) fl_9 (fun _ h9 => h9) rfl hin rfl (by decide +kernel) rfl rfl (Nat.le_of_ble_eq_true rfl) dX2_init_8 (fun H locs hP hD hS => ?_)
  have hP : va_P D vwCl [(h, .inr (4, [.ref a1, .int (nI 0), .int (nI 0), .int (nI 0), .null, .int (nI 0)])), (a1, .inl (cI, 5, .inl ((fun _ => 0))))] H := hP
  have hD : va_D A [(h, .inr (4, [.ref a1, .int (nI 0), .int (nI 0), .int (nI 0), .null, .int (nI 0)])), (a1, .inl (cI, 5, .inl ((fun _ => 0))))] := hD
  refine lv_aload_n hx hb dX2_init_11 rfl (lv_at hl 0 rfl) ?_
  refine lv_bipush (v := nI 60) hx hb dX2_init_12 (by decide) ?_
  refine nv_newa (atype := .char) (ty := .char) (n := 60) (a0 := (60, .inl (gN (fun _ => 0)))) hx hb (hts (.arrayClass .char) (by decide +kernel)) rfl hK.1 hP hD hS hA 1 rfl (fun _ => rfl) (by decide) (Nat.le_of_ble_eq_true rfl) (Nat.le_of_ble_eq_true rfl) (Nat.le_of_ble_eq_true rfl) dX2_init_14 (fun a2 H hP hD hS => ?_)
  have hP : va_P D vwCl [(h, .inr (4, [.ref a1, .int (nI 0), .int (nI 0), .int (nI 0), .null, .int (nI 0)])), (a1, .inl (cI, 5, .inl ((fun _ => 0)))), (a2, .inl (cC, 60, .inl (gN ((fun _ => 0)))))] H := hP
  have hD : va_D A [(h, .inr (4, [.ref a1, .int (nI 0), .int (nI 0), .int (nI 0), .null, .int (nI 0)])), (a1, .inl (cI, 5, .inl ((fun _ => 0)))), (a2, .inl (cC, 60, .inl (gN ((fun _ => 0)))))] := hD
  refine va_putF (D := D) (ci := 4) (v := .ref a2) (ty := tyX2 4) (C := RX2) (T := TX2) (N := 6) hx hb hts in_X2 tyX2 tyX2_ok nmX2 hown hK.1 hP hD hS 0 rfl rfl 4 (by decide) fl_15 (fun _ h9 => h9) rfl hin rfl (by decide +kernel) rfl rfl (Nat.le_of_ble_eq_true rfl) dX2_init_16 (fun H locs hP hD hS => ?_)
  have hP : va_P D vwCl [(h, .inr (4, [.ref a1, .int (nI 0), .int (nI 0), .int (nI 0), .ref a2, .int (nI 0)])), (a1, .inl (cI, 5, .inl ((fun _ => 0)))), (a2, .inl (cC, 60, .inl (gN ((fun _ => 0)))))] H := hP
  have hD : va_D A [(h, .inr (4, [.ref a1, .int (nI 0), .int (nI 0), .int (nI 0), .ref a2, .int (nI 0)])), (a1, .inl (cI, 5, .inl ((fun _ => 0)))), (a2, .inl (cC, 60, .inl (gN ((fun _ => 0)))))] := hD
  exact W.mono hq (W.vret hx hb hr (fun t ht _ => ⟨⟨(fun i => [h, a1, a2].getD i 0), rfl, rfl, by subst ht; exact ⟨hP, hD⟩⟩, hS.F ht⟩) hS.2.2 dX2_init_19 hlocks)

set_option maxHeartbeats 1000000 in
set_option maxRecDepth 100000 in
theorem c_X0_init (l : Launch) {D : va_G} {cI cC cD cR : ClassId} {sa : sA} {A : Nat → Prop} {h : Nat} (n0 : Nat) (hA0 : ∀ q, n0 ≤ q → A q) (hD : va_D A [(h, .inr (2, [.int (nI 0), .int (nI 0), .int (nI 0), .int (nI 0), .int (nI 0), .int (nI 0), .int (nI 0), .int (nI 0), .int (nI 0), .int (nI 0)]))])  : Met l yX0_init wsX0_init ({ frames := 1, cells := 0, slots := 0, locals := 20 }) (va_Pc [.ref h] (tPre D [(cI, .int), (cC, .char), (cD, .object "DoorDialect$Door"), (cR, .object "DoorDialect$House")] nN sa A (fun H => n0 ≤ H.size ∧ va_P D vwCl [(h, .inr (2, [.int (nI 0), .int (nI 0), .int (nI 0), .int (nI 0), .int (nI 0), .int (nI 0), .int (nI 0), .int (nI 0), .int (nI 0), .int (nI 0)]))] H))) (gQv (fun H => va_P D vwCl [(h, dc (fun _ => 0))] H) A) 0 0 A := by
  refine nv_metN (cc := cX0_init) (maxL := 1) (ret := none) (by decide) rfl (Nat.le_of_ble_eq_true rfl) ?_
  intro p0 e0 s m0 args below meth c0 Q hq hargs hin hnA hpre ls hl
  obtain ⟨hx, hb, hr, hts, hown, hlocks, hml⟩ := hnA
  obtain ⟨⟨hn0, hP⟩, hT⟩ := hpre
  have hA : ∀ q, s.heap.size ≤ q → A q := fun q hq9 => hA0 q (Nat.le_trans hn0 hq9)
  have hK := hT.1
  have hown : s.vm.findClass RX0 = some m0.cls := hown
  have hP : va_P D vwCl [(h, .inr (2, [.int (nI 0), .int (nI 0), .int (nI 0), .int (nI 0), .int (nI 0), .int (nI 0), .int (nI 0), .int (nI 0), .int (nI 0), .int (nI 0)]))] s.heap := hP
  have hl : lv_has ls 1 [(0, .ref h)] := hl
  have hS : va_S A s.heap s.heap [] := va_S.rf
  have in_X0 : ∀ w ∈ wsX00, w ∈ wsX0_init := by decide +kernel
  have fl_9 := hts (.fieldLink RX0 9 "DoorDialect$Door" "threshold" "I") (by decide +kernel)
  refine lv_aload_n hx hb dX0_init_0 rfl (lv_at hl 0 rfl) ?_
  refine W.objInit hx hb hown (hts (.methodLink RX0 3 objectInit) (by decide +kernel)) (hts (.instanceMethod objectInit) (by decide +kernel)) (hts (.code objectInit ⟨#[0xb1]⟩ 1 none) (by decide +kernel)) rfl (by rw [hml]; exact hl.1) rfl dX0_init_1 (Nat.le_of_ble_eq_true rfl) (Nat.le_of_ble_eq_true rfl) ?_
  refine W.eq (g2 := F0 m0 4 ls []) rfl ?_
  refine lv_aload_n hx hb dX0_init_4 rfl (lv_at hl 0 rfl) ?_
  refine lv_iconst (v := (-1)) hx hb dX0_init_5 (by decide) ?_
  refine va_put (D := D) (ci := 2) (v := .int ((-1))) (ty := .int) (C := RX0) (T := TX0) (N := 10) hx hb hts in_X0 tyX0 tyX0_ok nmX0 hown hK.1 hP hD hS 0 rfl rfl 5 (by decide) fl_9 (fun _ h9 => h9) rfl (by decide +kernel) rfl rfl (Nat.le_of_ble_eq_true rfl) dX0_init_6 (fun H locs hP hD hS => ?_)
  have hP : va_P D vwCl [(h, .inr (2, [.int (nI 0), .int (nI 0), .int (nI 0), .int (nI 0), .int (nI 0), .int ((-1)), .int (nI 0), .int (nI 0), .int (nI 0), .int (nI 0)]))] H := hP
  have hD : va_D A [(h, .inr (2, [.int (nI 0), .int (nI 0), .int (nI 0), .int (nI 0), .int (nI 0), .int ((-1)), .int (nI 0), .int (nI 0), .int (nI 0), .int (nI 0)]))] := hD
  have hP : va_P D vwCl [(h, dc (fun _ => 0))] H := by rw [show ((-1) : Int32) = nI 0 - nI 1 from by decide] at hP; exact hP
  exact W.mono hq (W.vret hx hb hr (fun t ht _ => ⟨⟨(), rfl, trivial, by subst ht; exact hP⟩, hS.F ht⟩) hS.2.2 dX0_init_9 hlocks)
