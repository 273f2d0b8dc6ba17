/-! what build makes of a script: the house, its past, how many changes, the last refusal -/
abbrev qT : Type := (Nat → Nat) × (Nat → Nat) × Nat × Nat × Int32
abbrev qZ : Nat → Nat := fun _ => 0
abbrev qW (D : va_G) (cI cC cD cR : ClassId) (AD : Nat → Nat) (S : qT) (H : Heap) : Prop := cW D cI cC cD cR AD S.1 qZ S.2.1 qZ qZ 0 S.2.2.1 0 S.2.2.2.1 0 (-1) (-1) S.2.2.2.2 H
abbrev qF (k : Nat) (S : qT) : Prop := lF k S.1 qZ S.2.1 qZ qZ 0 S.2.2.1 0 S.2.2.2.1 0
def qV9 (S : qT) (v : V) : qT := (v.2.2.2.2, (if v.1 = 0 then hPush S.2.1 S.1 S.2.2.1 else S.2.1), (if v.1 = 0 then (if S.2.2.1 = 8 then 8 else S.2.2.1 + 1) else S.2.2.1), vWy v S.2.2.2.1, vWd v S.2.2.2.2)
def qN : qT := (gNew, qZ, 0, 0, nI 0)
theorem qV_F {k : Nat} {S : qT} (hF : qF k S) (hk : k < 512) (v : V) (hv : ∀ b, gWf b S.1 → 25 ≤ b → b + 1 < 2 ^ 20 → gWf (b + 1) v.2.2.2.2) (hw : v.2.1 ≤ 100) : qF (k + 1) (qV9 S v) := hF.change hk v hv hw
theorem qN_F : qF 0 qN := ⟨25, gWf_new, Nat.le_refl _, Nat.le_refl _, by decide, by decide, fun j h => absurd h (Nat.not_lt_zero j), by decide, fun h => absurd h (by decide), by decide, fun j h => absurd h (Nat.not_lt_zero j), by decide, fun j h => absurd h (Nat.not_lt_zero j), by decide⟩
theorem lF.up {k k2 : Nat} {G Sv Hi In Le : Nat → Nat} {hs ch ty wy ln : Nat} (hF : lF k G Sv Hi In Le hs ch ty wy ln) (h : k ≤ k2) (h2 : k2 ≤ 512) : lF k2 G Sv Hi In Le hs ch ty wy ln := by
  obtain ⟨b, h1, h3, h4, h5, h6⟩ := hF
  exact ⟨b, h1, h3, by omega, h2, h6⟩
def bt (c : Int32) (k m : Nat) : Int32 := c >>> (nI k &&& 31) &&& nI m
def rm (x y : Int32) : Int32 := x - x / y * y
def dr (c : Int32) (dm : Nat) : Nat := c.toBitVec.toNat % 2 ^ 3 % dm
def kA (c : Int32) (dm : Nat) (S : qT) : Int32 := if 0 < bt c 3 3 then qDoor S.1 (dr c dm) 1 else rm (bt c 5 3) (nI 3)
def kB (c : Int32) (dm : Nat) (S : qT) : Int32 := if 0 < bt c 3 3 then qDoor S.1 (dr c dm) 2 else bt c 7 1
def kC (c : Int32) (dm : Nat) (S : qT) : Int32 := if bt c 8 1 = 0 then qDoor S.1 (dr c dm) 4 else bt c 9 3
def oK1 (c : Int32) (dm : Nat) (S : qT) : qT := qV9 S (vKnock S.1 (nI (dr c dm)) (kA c dm S) (bI (kB c dm S = nI 1)) (kC c dm S))
def oK2 (c : Int32) (dm : Nat) (S : qT) : qT := qV9 S (vKnock S.1 (rm (bt c 4 7) (nI dm)) (rm (bt c 6 3) (nI 3)) (bI (bt c 8 1 = nI 1)) (bt c 9 3))
def oKn (c : Int32) (dm : Nat) (S : qT) : qT := if S.1 0 = 0 then S else oK2 c dm (oK1 c dm S)
def oSe (c : Int32) (dm sm : Nat) (S : qT) : qT := if bt c 11 3 = 0 then qV9 S (vSet S.1 (rm (bt c 13 7) (nI dm)) (rm (bt c 16 7) (nI (sm + 1)) - nI 1)) else S
def oTe (c : Int32) (S : qT) : qT := if bt c 11 3 = nI 1 then qV9 S (vTell S.1 (rm (bt c 13 3) (nI 3)) (bt c 15 3) (bI (bt c 17 1 = nI 1)) (rm (bt c 18 7) (nI 5))) else S
def oKe (c : Int32) (S : qT) : qT := if bt c 11 7 = nI 2 then qV9 S (vKey S.1 (rm (bt c 14 3) (nI 3)) (rm (bt c 16 3) (nI 3))) else S
def oSh (c : Int32) (dm : Nat) (S : qT) : qT := if bt c 11 7 = nI 6 then qV9 S (vShut S.1 (rm (bt c 14 7) (nI dm))) else S
def oFr (c : Int32) (dm : Nat) (S : qT) : qT := if bt c 11 7 = nI 3 then qV9 S (vFree S.1 (rm (bt c 14 7) (nI (max 1 (S.1 2)))) (rm (bt c 17 7) (nI dm))) else S
def oGo (c : Int32) (sm : Nat) (S : qT) : qT := if bt c 11 15 = nI 7 then qV9 S (vGovern S.1 (rm (bt c 15 7) (nI sm)) (bt c 18 3)) else S
def oTh (c : Int32) (S : qT) : qT := if bt c 11 15 = nI 15 then qV9 S (vSill S.1 (bt c 15 3)) else S
def oDo (c : Int32) (S : qT) : qT := if bt c 20 7 = 0 then qV9 S (vDoor S.1 (rm (bt c 23 3) (nI 3)) (rm (bt c 25 3) (nI 3)) (bI (bt c 27 1 = nI 1)) (rm (bt c 13 7) (nI 6)) (rm (bt c 16 7) (nI 6))) else S
def qI (c : Int32) (S : qT) : qT := oDo c (oTh c (oGo c (max 1 (S.1 1)) (oFr c (max 1 (S.1 0)) (oSh c (max 1 (S.1 0)) (oKe c (oTe c (oSe c (max 1 (S.1 0)) (max 1 (S.1 1)) (oKn c (max 1 (S.1 0)) S))))))))
def qL (xs : Nat → Int32) : Nat → Nat → qT → qT
  | 0, _, S => S
  | n + 1, j, S => qL xs n (j + 1) (qI (xs j) S)
def oD1 (z : Int32) (j : Nat) (S : qT) : qT := qV9 S (vDoor S.1 (rm (bt z (2 + j) 3) (nI 3)) (rm (bt z (4 + j) 3) (nI 3)) (bI (bt z (8 + j) 1 = nI 1)) (rm (bt z (12 + j) 7) (nI 6)) (rm (bt z (17 + j) 7) (nI 6)))
def qD (z : Int32) : Nat → Nat → qT → qT
  | 0, _, S => S
  | n + 1, j, S => qD z n (j + 1) (oD1 z j S)
def oS1 (z : Int32) (S : qT) : qT := qV9 S (vSill S.1 (bt z 24 3))
/-- the script's ints, 0 behind its end -/
def xZ (L : Nat) (xs : Nat → Int32) (j : Nat) : Int32 := if j < L then xs j else 0
def n3 (z : Int32) : Nat := 3 + z.toBitVec.toNat % 2 ^ 2
def qB9 (x : Nat → Int32) : qT := qL x 12 1 (oS1 (x 0) (qD (x 0) (n3 (x 0)) 0 qN))
theorem nb_pS {s : State} {D : va_G} {tys : List (ClassId × FieldType)} {N : List nL} {sa : sA} {A A1 : Nat → Prop} {H : Heap} {locs : List Loc} {P : Heap → Prop} {As : List Value} {cB : ClassId} {tl : List tQ} {b9 L : Nat} {xs : Nat → Int32} (hT : kT D tys N sa A s s.heap) (hX : lX D cB A s s.heap) (htl : ∀ q ∈ tl, tx A1 q s H) (hS : va_S A s.heap H locs) (hA : ∀ q, A1 q → A q) (hP : P H) (hXs : va_X b9 L xs s s.heap) (hb : b9 < s.heap.size) (hA9 : ¬ A b9) : PreS s H (va_Pc As (fun U => lPre D tys N sa A1 cB P tl U ∧ va_X b9 L xs U U.heap)) As :=
  ⟨fun _ _ _ _ h => ⟨h.1, ⟨h.2.1.1, h.2.1.2.1.call, h.2.1.2.2.1.call, fun q hq => tx.moved (Vm.Alike.refl _) (h.2.1.2.2.2 q hq)⟩, h.2.2.moved (Vm.Alike.refl _)⟩, fun U hU hW => ⟨rfl, ⟨by rw [hU]; exact hP, (kT.go hT hS hU hW).narrow hA, by rw [hU]; exact hX.go hS hA hW, fun q hq => by rw [hU]; exact (htl q hq).moved hW.alike⟩, by
    show va_X b9 L xs U U.heap
    rw [hU]
    exact (hXs.kept (hS.2.1 b9 hb hA9)).moved hW.alike⟩⟩
section GT0
variable {p : Program} {l : Launch} {e : Env} {R : Room} {s : State} {m : MethodId} {args : Array Value} {below : List Frame} {meth : Method} {c : Code} {H : Heap} {locs : List Loc} {cells slots : Nat} {Q : State → Prop} {cc : ByteArray} {pc : Nat} {ls : Array Slot} {rest : List Value}
/-- whether an int is above 0, as an int -/
theorem nv_gt0 {x : Int32} (hx : p.tables.exec = Jvm.exec) (hb : c.code = cc) (d0 : decode cc pc = .ok (.ifCond .le 7, 3)) (d1 : decode cc (pc + 3) = .ok (.iconst 1, 1)) (d2 : decode cc (pc + 3 + 1) = .ok (.goto 4, 3)) (d3 : decode cc (pc + 7) = .ok (.iconst 0, 1))
    (k : W p l e R s m args below meth c H locs cells slots Q (F0 m (pc + 8) ls (.int (nI (bI (0 < x))) :: rest))) : W p l e R s m args below meth c H locs cells slots Q (F0 m pc ls (.int x :: rest)) := by
  refine lv_if_le (tgt := pc + 7) hx hb d0 (by omega) (fun h => ?_) (fun h => ?_)
  · rw [bI_f (fun q => absurd (Int32.lt_of_lt_of_le q h) (Int32.lt_irrefl))] at k
    exact lv_iconst (v := nI 0) hx hb d3 (by decide) k
  · rw [bI_t (Int32.not_le.mp h)] at k
    exact lv_iconst (v := nI 1) hx hb d1 (by decide) (lv_goto (tgt := pc + 8) hx hb d2 (by omega) k)
end GT0
set_option maxHeartbeats 1000000 in
set_option maxRecDepth 100000 in
theorem c_L_build (l : Launch) (hl9 : l.stackTraces = false) {D : va_G} {cI cC cD cR cB : ClassId} {sa : sA} {n1 b9 L : Nat} {xs : Nat → Int32} (hL : L ≤ 260) (hb9 : b9 < n1) : vx_Met l yL_build wsM_build ({ frames := 9, cells := 412, slots := 3148, locals := 184 }) (va_Pc [.ref b9] (fun U => (lPre D [(cI, .int), (cC, .char), (cD, .object "DoorDialect$Door"), (cR, .object "DoorDialect$House")] nN sa (aN n1) cB (fun H => n1 ≤ H.size) []) U ∧ va_X b9 L xs U U.heap)) (gQn (fun r H => ∃ AD : Nat → Nat, AD 0 = r ∧ cInj AD ∧ (∀ i, i < 165 → n1 ≤ AD i) ∧ qF 127 (qB9 (xZ L xs)) ∧ qW D cI cC cD cR AD (qB9 (xZ L xs)) H) (aN n1)) noX 412 3148 (aN n1) := by
  refine nv_metX (cc := cL_build) (maxL := 9) (ret := (some (.object "DoorDialect"))) (by decide) rfl (Nat.le_of_ble_eq_true rfl) ?_
  intro p0 e0 s m0 args below meth c0 Q hq hargs hnA hout hpre ls hl
  obtain ⟨hx, hb, hr, hts, hown, hlocks, hml⟩ := hnA
  obtain ⟨⟨hP, hT, hX, htl⟩, hE9⟩ := hpre
  have hown : s.vm.findClass RL = some m0.cls := hown
  have hl : lv_has ls 9 [(0, .ref b9)] := hl
  have hS : va_S (aN n1) s.heap s.heap [] := va_S.rf
  have hn1 : n1 ≤ s.heap.size := hP
  have hXs : va_X b9 L xs s s.heap := hE9
  have hb9s : b9 < s.heap.size := Nat.lt_of_lt_of_le hb9 hn1
  have hnA9 : ¬ aN s.heap.size b9 := Nat.not_le.mpr hb9s
  have hT := hT.narrow (aN_sub hn1)
  have hX := hX.narrow (aN_sub hn1)
  have hS : va_S (aN s.heap.size) s.heap s.heap [] := va_S.rf
  have hP0 : ∀ H : Heap, va_P D vwCl [] H := fun H k q h => by simp at h
  have hD0 : ∀ A : Nat → Prop, va_D A [] := fun A => ⟨fun i j p q h => by simp at h, fun k q h => by simp at h⟩
  have hA : ∀ q : Nat, s.heap.size ≤ q → aN s.heap.size q := fun _ h9 => h9
  have inX6 : ∀ w ∈ wsX60, w ∈ wsM_build := by decide +kernel
  refine va_new (D := D) (ci := 8) (C := RX6) (T := TX6) (N := 11) (fs := [.null, .null, .null, .null, .null, .null, .int (nI 0), .int (nI 0), .int (nI 0), .int (nI 0), .int (nI 0)]) hx hb hts inX6 tyX6 tyX6_ok hown (hts (.classLink RL 18 RX6) (by decide +kernel)) (hts (.instantiable RX6 11) (by decide +kernel)) (hts (.initialized RX6) (by decide +kernel)) hT.1.1 (hP0 _) (hD0 _) hS hA rfl (fun j hj => by rcases (show j = 0 ∨ j = 1 ∨ j = 2 ∨ j = 3 ∨ j = 4 ∨ j = 5 ∨ j = 6 ∨ j = 7 ∨ j = 8 ∨ j = 9 ∨ j = 10 by omega) with rfl | rfl | rfl | rfl | rfl | rfl | rfl | rfl | rfl | rfl | rfl <;> rfl) (Nat.le_of_ble_eq_true rfl) (Nat.le_of_ble_eq_true rfl) dL_build_0 (fun h6 H hP hD hS => ?_)
  refine lv_dup hx hb dL_build_3 rfl ?_
  refine nv_kQv (A1 := aN s.heap.size) (S := Nat → Nat) (post := fun AD => AD 0 = h6) (B := fun AD H9 => cInj AD ∧ (∀ i, i < 165 → aN s.heap.size (AD i)) ∧ qW D cI cC cD cR AD qN H9) (va_runI (As := []) (rest := [.ref h6]) ⟨hx, hb, hml, hown, hts⟩ (c_X6_init l (A := aN s.heap.size) s.heap.size hA hD qZ qZ qZ) ⟨callB_of 0 hts (goodIn_m gL_build_X6_init wsM_b) rfl rfl rfl (hts (.initialized RX6) (by decide +kernel)) (hts (.methodLink RL 23 yX6_init) (by decide +kernel)) (by decide +kernel) ⟨Nat.le_of_ble_eq_true rfl, Nat.le_of_ble_eq_true rfl⟩, rfl, hts (.instanceMethod yX6_init) (by decide +kernel)⟩ (nt_pSn hT hS (fun _ h9 => h9) ⟨hS.1, hP⟩) rfl rfl hl.1 rfl (lv_room (Nat.le_of_ble_eq_true rfl)) dL_build_4 ⟨Nat.le_of_ble_eq_true rfl, Nat.le_of_ble_eq_true rfl⟩) hS (fun _ h9 => h9) (fun AD H locs hp9 hB9 hK hS => ?_)
  have hp9 : AD 0 = h6 := hp9
  subst hp9
  obtain ⟨hI, hAD, hP⟩ := hB9
  have hsub : ∀ q, cRg AD 0 165 q → aN s.heap.size q := cRg_A hAD (Nat.le_refl _)
  refine lv_astore_n (lv' := [(1, .ref (AD 0)), (0, .ref b9)]) hx hb dL_build_7 rfl hl (by decide) rfl (fun ls hl => ?_)
  refine lv_aload_n hx hb dL_build_8 rfl (lv_at hl 1 rfl) ?_
  refine lv_iconst (v := nI 0) hx hb dL_build_9 (by decide) ?_
  refine nv_kS (va_runS (As := [.ref b9, .int (nI 0)]) (rest := []) ⟨hx, hb, hml, hown, hts⟩ (c_L_at l (xs := xs) hL 0 (by decide)) (va_cwS 2 hts (goodIn_m gL_build_L_at wsM_b) rfl rfl rfl (by decide +kernel) ⟨Nat.le_of_ble_eq_true rfl, Nat.le_of_ble_eq_true rfl⟩) (xPre_pS hXs hb9s hnA9 hS) rfl rfl hl.1 rfl (lv_room (Nat.le_of_ble_eq_true rfl)) dL_build_10 ⟨Nat.le_of_ble_eq_true rfl, Nat.le_of_ble_eq_true rfl⟩) ?_
  refine nv_toi (xZ L xs 0) rfl ?_
  generalize hz9 : xZ L xs 0 = z
  refine lv_istore_n (lv' := [(2, .int z), (1, .ref (AD 0)), (0, .ref b9)]) hx hb dL_build_13 rfl hl (by decide) rfl (fun ls hl => ?_)
  refine lv_iconst (v := nI 0) hx hb dL_build_14 (by decide) ?_
  refine lv_istore_n (lv' := [(3, .int (nI 0)), (2, .int z), (1, .ref (AD 0)), (0, .ref b9)]) hx hb dL_build_15 rfl hl (by decide) rfl (fun ls hl => ?_)
  have hone : ∀ (j : Nat) (c : Int32) (S0 T : qT), 1 ≤ j → j ≤ 12 → qI c S0 = T → qF (10 * j - 3) S0 → (∀ (H : Heap) (locs : List Loc) (ls : Array Slot), qW D cI cC cD cR AD T H → qF (10 * (j + 1) - 3) T → va_S (aN s.heap.size) s.heap H locs → lv_has ls 9 [(3, .int (nI j)), (0, .ref b9), (1, .ref (AD 0)), (2, .int z)] → W p0 l e0 ({ frames := 9, cells := 412, slots := 3148, locals := 184 }) s m0 args below meth c0 H locs (152 + 20 * j + 20) (1588 + 120 * j + 120) Q (F0 m0 652 ls [])) → ∀ (H : Heap) (locs : List Loc) (ls : Array Slot), qW D cI cC cD cR AD S0 H → va_S (aN s.heap.size) s.heap H locs → lv_has ls 9 [(4, .int c), (3, .int (nI j)), (0, .ref b9), (1, .ref (AD 0)), (2, .int z)] → W p0 l e0 ({ frames := 9, cells := 412, slots := 3148, locals := 184 }) s m0 args below meth c0 H locs (152 + 20 * j) (1588 + 120 * j) Q (F0 m0 118 ls []) := by
    intro j c S0 T hj1 hj2 hT9 hF kz H locs ls hP hS hl
    have g0 : S0.1 0 ≤ 8 := by obtain ⟨b9, h1, -⟩ := hF; exact h1.2.2.1
    have g1 : S0.1 1 ≤ 6 := by obtain ⟨b9, h1, -⟩ := hF; exact h1.2.2.2.1
    obtain ⟨dm, hdm⟩ : ∃ dm, dm = max 1 (S0.1 0) := ⟨_, rfl⟩
    obtain ⟨sm, hsm⟩ : ∃ sm, sm = max 1 (S0.1 1) := ⟨_, rfl⟩
    have d1 : 1 ≤ dm := by omega
    have d2 : dm ≤ 8 := by omega
    have s1 : 1 ≤ sm := by omega
    have s2 : sm ≤ 6 := by omega
    unfold qI at hT9
    rw [← hdm, ← hsm] at hT9
    have b7 : ∀ (S : qT), oDo c S = T → qF (10 * j - 3 + 9) S → ∀ (H : Heap) (locs : List Loc) (ls : Array Slot), qW D cI cC cD cR AD S H → va_S (aN s.heap.size) s.heap H locs → lv_has ls 9 [(7, .int (nI sm)), (6, .int (nI (dr c dm))), (5, .int (nI dm)), (4, .int c), (3, .int (nI j)), (0, .ref b9), (1, .ref (AD 0)), (2, .int z)] → W p0 l e0 ({ frames := 9, cells := 412, slots := 3148, locals := 184 }) s m0 args below meth c0 H locs (152 + 20 * j + 19) (1588 + 120 * j + 114) Q (F0 m0 588 ls []) := by
      intro S hE hF H locs ls hP hS hl
      refine lv_iload hx hb dL_build_588 (lv_at hl 3 rfl) ?_
      refine lv_bipush (v := nI 20) hx hb dL_build_590 (by decide) ?_
      refine lv_ishr hx hb dL_build_592 ?_
      refine lv_bipush (v := nI 7) hx hb dL_build_593 (by decide) ?_
      refine lv_iand hx hb dL_build_595 ?_
      refine nv_toi (bt c 20 7) rfl ?_
      refine lv_if_ne (tgt := 652) hx hb dL_build_596 (by decide) (fun c1 => ?_) (fun c1 => ?_)
      · have e9 : S = T := by rw [← hE]; unfold oDo; rw [if_neg c1]
        subst e9
        refine W.widen (k := 152 + 20 * j + 20) (n := 1588 + 120 * j + 120) (by omega) (by omega) ?_
        exact kz H locs ls hP (hF.up (by omega) (by omega)) hS (lv_sub hl [4, 5, 6, 7] rfl)
      · refine lv_aload_n hx hb dL_build_599 rfl (lv_at hl 6 rfl) ?_
        refine lv_iconst (v := nI 0) hx hb dL_build_600 (by decide) ?_
        refine lv_iload hx hb dL_build_601 (lv_at hl 3 rfl) ?_
        refine lv_bipush (v := nI 23) hx hb dL_build_603 (by decide) ?_
        refine lv_ishr hx hb dL_build_605 ?_
        refine lv_iconst (v := nI 3) hx hb dL_build_606 (by decide) ?_
        refine lv_iand hx hb dL_build_607 ?_
        refine nv_toi (bt c 23 3) rfl ?_
        refine lv_iconst (v := nI 3) hx hb dL_build_608 (by decide) ?_
        refine lv_irem hx hb dL_build_609 (by decide) ?_
        refine nv_toi (rm (bt c 23 3) (nI 3)) rfl ?_
        refine lv_iload hx hb dL_build_610 (lv_at hl 3 rfl) ?_
        refine lv_bipush (v := nI 25) hx hb dL_build_612 (by decide) ?_
        refine lv_ishr hx hb dL_build_614 ?_
        refine lv_iconst (v := nI 3) hx hb dL_build_615 (by decide) ?_
        refine lv_iand hx hb dL_build_616 ?_
        refine nv_toi (bt c 25 3) rfl ?_
        refine lv_iconst (v := nI 3) hx hb dL_build_617 (by decide) ?_
        refine lv_irem hx hb dL_build_618 (by decide) ?_
        refine nv_toi (rm (bt c 25 3) (nI 3)) rfl ?_
        refine lv_iload hx hb dL_build_619 (lv_at hl 3 rfl) ?_
        refine lv_bipush (v := nI 27) hx hb dL_build_621 (by decide) ?_
        refine lv_ishr hx hb dL_build_623 ?_
        refine lv_iconst (v := nI 1) hx hb dL_build_624 (by decide) ?_
        refine lv_iand hx hb dL_build_625 ?_
        refine nv_toi (bt c 27 1) rfl ?_
        refine lv_iload hx hb dL_build_626 (lv_at hl 3 rfl) ?_
        refine lv_bipush (v := nI 13) hx hb dL_build_628 (by decide) ?_
        refine lv_ishr hx hb dL_build_630 ?_
        refine lv_bipush (v := nI 7) hx hb dL_build_631 (by decide) ?_
        refine lv_iand hx hb dL_build_633 ?_
        refine nv_toi (bt c 13 7) rfl ?_
        refine lv_bipush (v := nI 6) hx hb dL_build_634 (by decide) ?_
        refine lv_irem hx hb dL_build_636 (by decide) ?_
        refine nv_toi (rm (bt c 13 7) (nI 6)) rfl ?_
        refine lv_iload hx hb dL_build_637 (lv_at hl 3 rfl) ?_
        refine lv_bipush (v := nI 16) hx hb dL_build_639 (by decide) ?_
        refine lv_ishr hx hb dL_build_641 ?_
        refine lv_bipush (v := nI 7) hx hb dL_build_642 (by decide) ?_
        refine lv_iand hx hb dL_build_644 ?_
        refine nv_toi (bt c 16 7) rfl ?_
        refine lv_bipush (v := nI 6) hx hb dL_build_645 (by decide) ?_
        refine lv_irem hx hb dL_build_647 (by decide) ?_
        refine nv_toi (rm (bt c 16 7) (nI 6)) rfl ?_
        refine nv_kN (vx_runSX (hh := [(0, 69, 150, 75), (70, 75, 150, 75), (76, 82, 150, 75), (83, 89, 150, 75), (90, 109, 150, 75), (110, 116, 150, 75), (117, 136, 150, 75), (137, 142, 150, 75), (143, 149, 150, 75), (0, 69, 155, 77), (70, 75, 155, 77), (76, 82, 155, 77), (83, 89, 155, 77), (90, 109, 155, 77), (110, 116, 155, 77), (117, 136, 155, 77), (137, 142, 155, 77), (143, 149, 155, 77), (0, 69, 160, 79), (70, 75, 160, 79), (76, 82, 160, 79), (83, 89, 160, 79), (90, 109, 160, 79), (110, 116, 160, 79), (117, 136, 160, 79), (137, 142, 160, 79), (143, 149, 160, 79)]) (As := [.ref (AD 0), .int (nI 0), .int (rm (bt c 23 3) (nI 3)), .int (rm (bt c 25 3) (nI 3)), .int (bt c 27 1), .int (rm (bt c 13 7) (nI 6)), .int (rm (bt c 16 7) (nI 6))]) (rest := []) ⟨hx, hb, hml, hown, hts⟩ (c_L_act_door l hl9 hI hF (by omega) (rm (bt c 23 3) (nI 3)) (rm (bt c 25 3) (nI 3)) (bt c 27 1) (rm (bt c 13 7) (nI 6)) (rm (bt c 16 7) (nI 6))) (vx_cwSW 7 hts gM_build_L_act rfl rfl rfl (by decide +kernel) ⟨Nat.le_of_ble_eq_true rfl, Nat.le_of_ble_eq_true rfl⟩) (nl_pS hT hX tx0 hS hsub hP) rfl rfl hl.1 rfl (lv_room (Nat.le_of_ble_eq_true rfl)) dL_build_648 ⟨by show 152 + 20 * j + 19 + 1 ≤ 412; omega, by show 1588 + 120 * j + 114 + 6 ≤ 3148; omega⟩) hS hsub (fun H locs hP hK hS => ?_)
        refine lv_pop hx hb dL_build_651 rfl ?_
        have hP : qW D cI cC cD cR AD (qV9 S (vDoor S.1 (rm (bt c 23 3) (nI 3)) (rm (bt c 25 3) (nI 3)) (bI ((bt c 27 1) = nI 1)) (rm (bt c 13 7) (nI 6)) (rm (bt c 16 7) (nI 6)))) H := hP
        have hF : qF (10 * j - 3 + 9 + 1) (qV9 S (vDoor S.1 (rm (bt c 23 3) (nI 3)) (rm (bt c 25 3) (nI 3)) (bI ((bt c 27 1) = nI 1)) (rm (bt c 13 7) (nI 6)) (rm (bt c 16 7) (nI 6)))) := qV_F hF (by omega) _ (fun b9 h1 h2 h3 => vWf_vDoor (bI_le _) h1 h2 h3) (vDoor_w _ _ _ _ _ _)
        have e9 : qV9 S (vDoor S.1 (rm (bt c 23 3) (nI 3)) (rm (bt c 25 3) (nI 3)) (bI ((bt c 27 1) = nI 1)) (rm (bt c 13 7) (nI 6)) (rm (bt c 16 7) (nI 6))) = T := by rw [← hE]; unfold oDo; rw [if_pos c1]
        rw [e9] at hP hF
        exact kz H locs ls hP (hF.up (by omega) (by omega)) hS (lv_sub hl [4, 5, 6, 7] rfl)
    have b6 : ∀ (S : qT), oDo c (oTh c S) = T → qF (10 * j - 3 + 8) S → ∀ (H : Heap) (locs : List Loc) (ls : Array Slot), qW D cI cC cD cR AD S H → va_S (aN s.heap.size) s.heap H locs → lv_has ls 9 [(7, .int (nI sm)), (6, .int (nI (dr c dm))), (5, .int (nI dm)), (4, .int c), (3, .int (nI j)), (0, .ref b9), (1, .ref (AD 0)), (2, .int z)] → W p0 l e0 ({ frames := 9, cells := 412, slots := 3148, locals := 184 }) s m0 args below meth c0 H locs (152 + 20 * j + 18) (1588 + 120 * j + 108) Q (F0 m0 558 ls []) := by
      intro S hE hF H locs ls hP hS hl
      refine lv_iload hx hb dL_build_558 (lv_at hl 3 rfl) ?_
      refine lv_bipush (v := nI 11) hx hb dL_build_560 (by decide) ?_
      refine lv_ishr hx hb dL_build_562 ?_
      refine lv_bipush (v := nI 15) hx hb dL_build_563 (by decide) ?_
      refine lv_iand hx hb dL_build_565 ?_
      refine nv_toi (bt c 11 15) rfl ?_
      refine lv_bipush (v := nI 15) hx hb dL_build_566 (by decide) ?_
      refine lv_icmp_ne (tgt := 588) hx hb dL_build_568 (by decide) (fun c1 => ?_) (fun c1 => ?_)
      · refine W.widen (k := 152 + 20 * j + 19) (n := 1588 + 120 * j + 114) (by omega) (by omega) ?_
        exact b7 S (by rw [← hE]; unfold oTh; rw [if_neg c1]) (hF.up (by omega) (by omega)) H locs ls hP hS hl
      · refine lv_aload_n hx hb dL_build_571 rfl (lv_at hl 6 rfl) ?_
        refine lv_iconst (v := nI 1) hx hb dL_build_572 (by decide) ?_
        refine lv_iload hx hb dL_build_573 (lv_at hl 3 rfl) ?_
        refine lv_bipush (v := nI 15) hx hb dL_build_575 (by decide) ?_
        refine lv_ishr hx hb dL_build_577 ?_
        refine lv_iconst (v := nI 3) hx hb dL_build_578 (by decide) ?_
        refine lv_iand hx hb dL_build_579 ?_
        refine nv_toi (bt c 15 3) rfl ?_
        refine lv_iconst (v := nI 0) hx hb dL_build_580 (by decide) ?_
        refine lv_iconst (v := nI 0) hx hb dL_build_581 (by decide) ?_
        refine lv_iconst (v := nI 0) hx hb dL_build_582 (by decide) ?_
        refine lv_iconst (v := nI 0) hx hb dL_build_583 (by decide) ?_
        refine nv_kN (vx_runSX (hh := [(0, 69, 150, 75), (70, 75, 150, 75), (76, 82, 150, 75), (83, 89, 150, 75), (90, 109, 150, 75), (110, 116, 150, 75), (117, 136, 150, 75), (137, 142, 150, 75), (143, 149, 150, 75), (0, 69, 155, 77), (70, 75, 155, 77), (76, 82, 155, 77), (83, 89, 155, 77), (90, 109, 155, 77), (110, 116, 155, 77), (117, 136, 155, 77), (137, 142, 155, 77), (143, 149, 155, 77), (0, 69, 160, 79), (70, 75, 160, 79), (76, 82, 160, 79), (83, 89, 160, 79), (90, 109, 160, 79), (110, 116, 160, 79), (117, 136, 160, 79), (137, 142, 160, 79), (143, 149, 160, 79)]) (As := [.ref (AD 0), .int (nI 1), .int (bt c 15 3), .int (nI 0), .int (nI 0), .int (nI 0), .int (nI 0)]) (rest := []) ⟨hx, hb, hml, hown, hts⟩ (c_L_act_threshold l hl9 hI hF (by omega) (bt c 15 3) (nI 0) (nI 0) (nI 0) (nI 0)) (vx_cwSW 7 hts gM_build_L_act rfl rfl rfl (by decide +kernel) ⟨Nat.le_of_ble_eq_true rfl, Nat.le_of_ble_eq_true rfl⟩) (nl_pS hT hX tx0 hS hsub hP) rfl rfl hl.1 rfl (lv_room (Nat.le_of_ble_eq_true rfl)) dL_build_584 ⟨by show 152 + 20 * j + 18 + 1 ≤ 412; omega, by show 1588 + 120 * j + 108 + 6 ≤ 3148; omega⟩) hS hsub (fun H locs hP hK hS => ?_)
        refine lv_pop hx hb dL_build_587 rfl ?_
        have hP : qW D cI cC cD cR AD (qV9 S (vSill S.1 (bt c 15 3))) H := hP
        have hF : qF (10 * j - 3 + 8 + 1) (qV9 S (vSill S.1 (bt c 15 3))) := qV_F hF (by omega) _ (fun b9 h1 h2 h3 => vWf_vSill h1 h2 h3) (vSill_w _ _)
        refine W.widen (k := 152 + 20 * j + 19) (n := 1588 + 120 * j + 114) (by omega) (by omega) ?_
        exact b7 _ (by rw [← hE]; unfold oTh; rw [if_pos c1]) (hF.up (by omega) (by omega)) H locs ls hP hS hl
    have b5 : ∀ (S : qT), oDo c (oTh c (oGo c sm S)) = T → qF (10 * j - 3 + 7) S → ∀ (H : Heap) (locs : List Loc) (ls : Array Slot), qW D cI cC cD cR AD S H → va_S (aN s.heap.size) s.heap H locs → lv_has ls 9 [(7, .int (nI sm)), (6, .int (nI (dr c dm))), (5, .int (nI dm)), (4, .int c), (3, .int (nI j)), (0, .ref b9), (1, .ref (AD 0)), (2, .int z)] → W p0 l e0 ({ frames := 9, cells := 412, slots := 3148, locals := 184 }) s m0 args below meth c0 H locs (152 + 20 * j + 17) (1588 + 120 * j + 102) Q (F0 m0 518 ls []) := by
      intro S hE hF H locs ls hP hS hl
      refine lv_iload hx hb dL_build_518 (lv_at hl 3 rfl) ?_
      refine lv_bipush (v := nI 11) hx hb dL_build_520 (by decide) ?_
      refine lv_ishr hx hb dL_build_522 ?_
      refine lv_bipush (v := nI 15) hx hb dL_build_523 (by decide) ?_
      refine lv_iand hx hb dL_build_525 ?_
      refine nv_toi (bt c 11 15) rfl ?_
      refine lv_bipush (v := nI 7) hx hb dL_build_526 (by decide) ?_
      refine lv_icmp_ne (tgt := 558) hx hb dL_build_528 (by decide) (fun c1 => ?_) (fun c1 => ?_)
      · refine W.widen (k := 152 + 20 * j + 18) (n := 1588 + 120 * j + 108) (by omega) (by omega) ?_
        exact b6 S (by rw [← hE]; unfold oGo; rw [if_neg c1]) (hF.up (by omega) (by omega)) H locs ls hP hS hl
      · refine lv_aload_n hx hb dL_build_531 rfl (lv_at hl 6 rfl) ?_
        refine lv_iconst (v := nI 2) hx hb dL_build_532 (by decide) ?_
        refine lv_iload hx hb dL_build_533 (lv_at hl 3 rfl) ?_
        refine lv_bipush (v := nI 15) hx hb dL_build_535 (by decide) ?_
        refine lv_ishr hx hb dL_build_537 ?_
        refine lv_bipush (v := nI 7) hx hb dL_build_538 (by decide) ?_
        refine lv_iand hx hb dL_build_540 ?_
        refine nv_toi (bt c 15 7) rfl ?_
        refine lv_iload hx hb dL_build_541 (lv_at hl 0 rfl) ?_
        refine lv_irem hx hb dL_build_543 (nI_ne0 (by omega) (by omega)) ?_
        refine nv_toi (rm (bt c 15 7) (nI sm)) rfl ?_
        refine lv_iload hx hb dL_build_544 (lv_at hl 3 rfl) ?_
        refine lv_bipush (v := nI 18) hx hb dL_build_546 (by decide) ?_
        refine lv_ishr hx hb dL_build_548 ?_
        refine lv_iconst (v := nI 3) hx hb dL_build_549 (by decide) ?_
        refine lv_iand hx hb dL_build_550 ?_
        refine nv_toi (bt c 18 3) rfl ?_
        refine lv_iconst (v := nI 0) hx hb dL_build_551 (by decide) ?_
        refine lv_iconst (v := nI 0) hx hb dL_build_552 (by decide) ?_
        refine lv_iconst (v := nI 0) hx hb dL_build_553 (by decide) ?_
        refine nv_kN (vx_runSX (hh := [(0, 69, 150, 75), (70, 75, 150, 75), (76, 82, 150, 75), (83, 89, 150, 75), (90, 109, 150, 75), (110, 116, 150, 75), (117, 136, 150, 75), (137, 142, 150, 75), (143, 149, 150, 75), (0, 69, 155, 77), (70, 75, 155, 77), (76, 82, 155, 77), (83, 89, 155, 77), (90, 109, 155, 77), (110, 116, 155, 77), (117, 136, 155, 77), (137, 142, 155, 77), (143, 149, 155, 77), (0, 69, 160, 79), (70, 75, 160, 79), (76, 82, 160, 79), (83, 89, 160, 79), (90, 109, 160, 79), (110, 116, 160, 79), (117, 136, 160, 79), (137, 142, 160, 79), (143, 149, 160, 79)]) (As := [.ref (AD 0), .int (nI 2), .int (rm (bt c 15 7) (nI sm)), .int (bt c 18 3), .int (nI 0), .int (nI 0), .int (nI 0)]) (rest := []) ⟨hx, hb, hml, hown, hts⟩ (c_L_act_govern l hl9 hI hF (by omega) (rm (bt c 15 7) (nI sm)) (bt c 18 3) (nI 0) (nI 0) (nI 0)) (vx_cwSW 7 hts gM_build_L_act rfl rfl rfl (by decide +kernel) ⟨Nat.le_of_ble_eq_true rfl, Nat.le_of_ble_eq_true rfl⟩) (nl_pS hT hX tx0 hS hsub hP) rfl rfl hl.1 rfl (lv_room (Nat.le_of_ble_eq_true rfl)) dL_build_554 ⟨by show 152 + 20 * j + 17 + 1 ≤ 412; omega, by show 1588 + 120 * j + 102 + 6 ≤ 3148; omega⟩) hS hsub (fun H locs hP hK hS => ?_)
        refine lv_pop hx hb dL_build_557 rfl ?_
        have hP : qW D cI cC cD cR AD (qV9 S (vGovern S.1 (rm (bt c 15 7) (nI sm)) (bt c 18 3))) H := hP
        have hF : qF (10 * j - 3 + 7 + 1) (qV9 S (vGovern S.1 (rm (bt c 15 7) (nI sm)) (bt c 18 3))) := qV_F hF (by omega) _ (fun b9 h1 h2 h3 => vWf_vGovern h1 h2 h3) (vGovern_w _ _ _)
        refine W.widen (k := 152 + 20 * j + 18) (n := 1588 + 120 * j + 108) (by omega) (by omega) ?_
        exact b6 _ (by rw [← hE]; unfold oGo; rw [if_pos c1]) (hF.up (by omega) (by omega)) H locs ls hP hS hl
    have b4 : ∀ (S : qT), oDo c (oTh c (oGo c sm (oFr c dm S))) = T → qF (10 * j - 3 + 6) S → ∀ (H : Heap) (locs : List Loc) (ls : Array Slot), qW D cI cC cD cR AD S H → va_S (aN s.heap.size) s.heap H locs → lv_has ls 9 [(7, .int (nI sm)), (6, .int (nI (dr c dm))), (5, .int (nI dm)), (4, .int c), (3, .int (nI j)), (0, .ref b9), (1, .ref (AD 0)), (2, .int z)] → W p0 l e0 ({ frames := 9, cells := 412, slots := 3148, locals := 184 }) s m0 args below meth c0 H locs (152 + 20 * j + 15) (1588 + 120 * j + 90) Q (F0 m0 467 ls []) := by
      intro S hE hF H locs ls hP hS hl
      refine lv_iload hx hb dL_build_467 (lv_at hl 3 rfl) ?_
      refine lv_bipush (v := nI 11) hx hb dL_build_469 (by decide) ?_
      refine lv_ishr hx hb dL_build_471 ?_
      refine lv_bipush (v := nI 7) hx hb dL_build_472 (by decide) ?_
      refine lv_iand hx hb dL_build_474 ?_
      refine nv_toi (bt c 11 7) rfl ?_
      refine lv_iconst (v := nI 3) hx hb dL_build_475 (by decide) ?_
      refine lv_icmp_ne (tgt := 518) hx hb dL_build_476 (by decide) (fun c1 => ?_) (fun c1 => ?_)
      · refine W.widen (k := 152 + 20 * j + 17) (n := 1588 + 120 * j + 102) (by omega) (by omega) ?_
        exact b5 S (by rw [← hE]; unfold oFr; rw [if_neg c1]) (hF.up (by omega) (by omega)) H locs ls hP hS hl
      · refine lv_aload_n hx hb dL_build_479 rfl (lv_at hl 6 rfl) ?_
        refine lv_bipush (v := nI 8) hx hb dL_build_480 (by decide) ?_
        refine lv_iload hx hb dL_build_482 (lv_at hl 3 rfl) ?_
        refine lv_bipush (v := nI 14) hx hb dL_build_484 (by decide) ?_
        refine lv_ishr hx hb dL_build_486 ?_
        refine lv_bipush (v := nI 7) hx hb dL_build_487 (by decide) ?_
        refine lv_iand hx hb dL_build_489 ?_
        refine nv_toi (bt c 14 7) rfl ?_
        refine lv_iconst (v := nI 1) hx hb dL_build_490 (by decide) ?_
        refine lv_aload_n hx hb dL_build_491 rfl (lv_at hl 6 rfl) ?_
        refine lv_iconst (v := nI 2) hx hb dL_build_492 (by decide) ?_
        obtain ⟨b2, hG2, -⟩ := id hF
        have g2 : S.1 2 ≤ 5 := hG2.2.2.2.2.1
        refine nv_kLX (vx_runV (As := [.int (nI 2)]) (rest := [.int (nI 1), .int (bt c 14 7), .int (nI 8), .ref (AD 0)]) ⟨hx, hb, hml, hown, hts⟩ (c_X6_account l hl9 (A := cRg AD 0 165) (hG2) hI cRg_self (nI 2)) (cwV 1 hts (goodIn_m gL_build_X6_account wsM_b) rfl rfl rfl (by decide +kernel) ⟨Nat.le_of_ble_eq_true rfl, Nat.le_of_ble_eq_true rfl⟩) (nt_pVn hT hS hsub hP (va_recv hT.1.1 hP.1 (ci := 8) (q0 := 0) rfl rfl)) rfl rfl hl.1 rfl (lv_room (Nat.le_of_ble_eq_true rfl)) dL_build_493 ⟨by show 152 + 20 * j + 15 + 1 ≤ 412; omega, by show 1588 + 120 * j + 90 + 6 ≤ 3148; omega⟩) hS hsub (fun E ce q9 H1 locs1 h0 hE hP1 hK1 hS1 hcell hv9 hcl => absurd (if_pos (by decide)) h0) (fun H locs h0 hP hK hS => ?_)
        refine nv_to (S.1 2) (if_pos (by decide)) ?_
        refine nv_mmax hx hb (hml.trans hl.1.symm) hown (hts (.methodLink RL 37 Lib.Math.max.name) (by decide +kernel)) (hts (.static Lib.Math.max.name) (by decide +kernel)) (hts (.initialized "java/lang/Math") (by decide +kernel)) (hts (.code Lib.Math.max.name Lib.Math.max.code 2 (some .int)) (by decide +kernel)) (Nat.le_of_ble_eq_true rfl) (Nat.le_of_ble_eq_true rfl) (by show _ ≤ 412; omega) (by show _ ≤ 3148; omega) (by decide) (by omega) dL_build_496 ?_
        refine lv_irem hx hb dL_build_499 (nI_ne0 (by omega) (by omega)) ?_
        refine nv_toi (rm (bt c 14 7) (nI (max 1 (S.1 2)))) rfl ?_
        refine lv_iload hx hb dL_build_500 (lv_at hl 3 rfl) ?_
        refine lv_bipush (v := nI 17) hx hb dL_build_502 (by decide) ?_
        refine lv_ishr hx hb dL_build_504 ?_
        refine lv_bipush (v := nI 7) hx hb dL_build_505 (by decide) ?_
        refine lv_iand hx hb dL_build_507 ?_
        refine nv_toi (bt c 17 7) rfl ?_
        refine lv_iload hx hb dL_build_508 (lv_at hl 2 rfl) ?_
        refine lv_irem hx hb dL_build_510 (nI_ne0 (by omega) (by omega)) ?_
        refine nv_toi (rm (bt c 17 7) (nI dm)) rfl ?_
        refine lv_iconst (v := nI 0) hx hb dL_build_511 (by decide) ?_
        refine lv_iconst (v := nI 0) hx hb dL_build_512 (by decide) ?_
        refine lv_iconst (v := nI 0) hx hb dL_build_513 (by decide) ?_
        have hF0 := hF
        refine nv_kN (vx_runSX (hh := [(0, 69, 150, 75), (70, 75, 150, 75), (76, 82, 150, 75), (83, 89, 150, 75), (90, 109, 150, 75), (110, 116, 150, 75), (117, 136, 150, 75), (137, 142, 150, 75), (143, 149, 150, 75), (0, 69, 155, 77), (70, 75, 155, 77), (76, 82, 155, 77), (83, 89, 155, 77), (90, 109, 155, 77), (110, 116, 155, 77), (117, 136, 155, 77), (137, 142, 155, 77), (143, 149, 155, 77), (0, 69, 160, 79), (70, 75, 160, 79), (76, 82, 160, 79), (83, 89, 160, 79), (90, 109, 160, 79), (110, 116, 160, 79), (117, 136, 160, 79), (137, 142, 160, 79), (143, 149, 160, 79)]) (As := [.ref (AD 0), .int (nI 8), .int (rm (bt c 14 7) (nI (max 1 (S.1 2)))), .int (rm (bt c 17 7) (nI dm)), .int (nI 0), .int (nI 0), .int (nI 0)]) (rest := []) ⟨hx, hb, hml, hown, hts⟩ (c_L_act_free l hl9 hI hF (by omega) (rm (bt c 14 7) (nI (max 1 (S.1 2)))) (rm (bt c 17 7) (nI dm)) (nI 0) (nI 0) (nI 0)) (vx_cwSW 7 hts gM_build_L_act rfl rfl rfl (by decide +kernel) ⟨Nat.le_of_ble_eq_true rfl, Nat.le_of_ble_eq_true rfl⟩) (nl_pS hT hX tx0 hS hsub hP) rfl rfl hl.1 rfl (lv_room (Nat.le_of_ble_eq_true rfl)) dL_build_514 ⟨by show 152 + 20 * j + 16 + 1 ≤ 412; omega, by show 1588 + 120 * j + 96 + 6 ≤ 3148; omega⟩) hS hsub (fun H locs hP hK hS => ?_)
        refine lv_pop hx hb dL_build_517 rfl ?_
        have hP : qW D cI cC cD cR AD (qV9 S (vFree S.1 (rm (bt c 14 7) (nI (max 1 (S.1 2)))) (rm (bt c 17 7) (nI dm)))) H := hP
        have hF : qF (10 * j - 3 + 6 + 1) (qV9 S (vFree S.1 (rm (bt c 14 7) (nI (max 1 (S.1 2)))) (rm (bt c 17 7) (nI dm)))) := qV_F hF (by omega) _ (fun b9 h1 h2 h3 => vWf_vFree h1 h2 h3) (vFree_w _ _ _)
        refine W.widen (k := 152 + 20 * j + 17) (n := 1588 + 120 * j + 102) (by omega) (by omega) ?_
        exact b5 _ (by rw [← hE]; unfold oFr; rw [if_pos c1]) (hF.up (by omega) (by omega)) H locs ls hP hS hl
    have b3 : ∀ (S : qT), oDo c (oTh c (oGo c sm (oFr c dm (oSh c dm S)))) = T → qF (10 * j - 3 + 5) S → ∀ (H : Heap) (locs : List Loc) (ls : Array Slot), qW D cI cC cD cR AD S H → va_S (aN s.heap.size) s.heap H locs → lv_has ls 9 [(7, .int (nI sm)), (6, .int (nI (dr c dm))), (5, .int (nI dm)), (4, .int c), (3, .int (nI j)), (0, .ref b9), (1, .ref (AD 0)), (2, .int z)] → W p0 l e0 ({ frames := 9, cells := 412, slots := 3148, locals := 184 }) s m0 args below meth c0 H locs (152 + 20 * j + 14) (1588 + 120 * j + 84) Q (F0 m0 432 ls []) := by
      intro S hE hF H locs ls hP hS hl
      refine lv_iload hx hb dL_build_432 (lv_at hl 3 rfl) ?_
      refine lv_bipush (v := nI 11) hx hb dL_build_434 (by decide) ?_
      refine lv_ishr hx hb dL_build_436 ?_
      refine lv_bipush (v := nI 7) hx hb dL_build_437 (by decide) ?_
      refine lv_iand hx hb dL_build_439 ?_
      refine nv_toi (bt c 11 7) rfl ?_
      refine lv_bipush (v := nI 6) hx hb dL_build_440 (by decide) ?_
      refine lv_icmp_ne (tgt := 467) hx hb dL_build_442 (by decide) (fun c1 => ?_) (fun c1 => ?_)
      · refine W.widen (k := 152 + 20 * j + 15) (n := 1588 + 120 * j + 90) (by omega) (by omega) ?_
        exact b4 S (by rw [← hE]; unfold oSh; rw [if_neg c1]) (hF.up (by omega) (by omega)) H locs ls hP hS hl
      · refine lv_aload_n hx hb dL_build_445 rfl (lv_at hl 6 rfl) ?_
        refine lv_bipush (v := nI 7) hx hb dL_build_446 (by decide) ?_
        refine lv_iload hx hb dL_build_448 (lv_at hl 3 rfl) ?_
        refine lv_bipush (v := nI 14) hx hb dL_build_450 (by decide) ?_
        refine lv_ishr hx hb dL_build_452 ?_
        refine lv_bipush (v := nI 7) hx hb dL_build_453 (by decide) ?_
        refine lv_iand hx hb dL_build_455 ?_
        refine nv_toi (bt c 14 7) rfl ?_
        refine lv_iload hx hb dL_build_456 (lv_at hl 2 rfl) ?_
        refine lv_irem hx hb dL_build_458 (nI_ne0 (by omega) (by omega)) ?_
        refine nv_toi (rm (bt c 14 7) (nI dm)) rfl ?_
        refine lv_iconst (v := nI 0) hx hb dL_build_459 (by decide) ?_
        refine lv_iconst (v := nI 0) hx hb dL_build_460 (by decide) ?_
        refine lv_iconst (v := nI 0) hx hb dL_build_461 (by decide) ?_
        refine lv_iconst (v := nI 0) hx hb dL_build_462 (by decide) ?_
        refine nv_kN (vx_runSX (hh := [(0, 69, 150, 75), (70, 75, 150, 75), (76, 82, 150, 75), (83, 89, 150, 75), (90, 109, 150, 75), (110, 116, 150, 75), (117, 136, 150, 75), (137, 142, 150, 75), (143, 149, 150, 75), (0, 69, 155, 77), (70, 75, 155, 77), (76, 82, 155, 77), (83, 89, 155, 77), (90, 109, 155, 77), (110, 116, 155, 77), (117, 136, 155, 77), (137, 142, 155, 77), (143, 149, 155, 77), (0, 69, 160, 79), (70, 75, 160, 79), (76, 82, 160, 79), (83, 89, 160, 79), (90, 109, 160, 79), (110, 116, 160, 79), (117, 136, 160, 79), (137, 142, 160, 79), (143, 149, 160, 79)]) (As := [.ref (AD 0), .int (nI 7), .int (rm (bt c 14 7) (nI dm)), .int (nI 0), .int (nI 0), .int (nI 0), .int (nI 0)]) (rest := []) ⟨hx, hb, hml, hown, hts⟩ (c_L_act_shut l hl9 hI hF (by omega) (rm (bt c 14 7) (nI dm)) (nI 0) (nI 0) (nI 0) (nI 0)) (vx_cwSW 7 hts gM_build_L_act rfl rfl rfl (by decide +kernel) ⟨Nat.le_of_ble_eq_true rfl, Nat.le_of_ble_eq_true rfl⟩) (nl_pS hT hX tx0 hS hsub hP) rfl rfl hl.1 rfl (lv_room (Nat.le_of_ble_eq_true rfl)) dL_build_463 ⟨by show 152 + 20 * j + 14 + 1 ≤ 412; omega, by show 1588 + 120 * j + 84 + 6 ≤ 3148; omega⟩) hS hsub (fun H locs hP hK hS => ?_)
        refine lv_pop hx hb dL_build_466 rfl ?_
        have hP : qW D cI cC cD cR AD (qV9 S (vShut S.1 (rm (bt c 14 7) (nI dm)))) H := hP
        have hF : qF (10 * j - 3 + 5 + 1) (qV9 S (vShut S.1 (rm (bt c 14 7) (nI dm)))) := qV_F hF (by omega) _ (fun b9 h1 h2 h3 => vWf_vShut h1 h2 h3) (vShut_w _ _)
        refine W.widen (k := 152 + 20 * j + 15) (n := 1588 + 120 * j + 90) (by omega) (by omega) ?_
        exact b4 _ (by rw [← hE]; unfold oSh; rw [if_pos c1]) (hF.up (by omega) (by omega)) H locs ls hP hS hl
    have b2 : ∀ (S : qT), oDo c (oTh c (oGo c sm (oFr c dm (oSh c dm (oKe c S))))) = T → qF (10 * j - 3 + 4) S → ∀ (H : Heap) (locs : List Loc) (ls : Array Slot), qW D cI cC cD cR AD S H → va_S (aN s.heap.size) s.heap H locs → lv_has ls 9 [(7, .int (nI sm)), (6, .int (nI (dr c dm))), (5, .int (nI dm)), (4, .int c), (3, .int (nI j)), (0, .ref b9), (1, .ref (AD 0)), (2, .int z)] → W p0 l e0 ({ frames := 9, cells := 412, slots := 3148, locals := 184 }) s m0 args below meth c0 H locs (152 + 20 * j + 13) (1588 + 120 * j + 78) Q (F0 m0 393 ls []) := by
      intro S hE hF H locs ls hP hS hl
      refine lv_iload hx hb dL_build_393 (lv_at hl 3 rfl) ?_
      refine lv_bipush (v := nI 11) hx hb dL_build_395 (by decide) ?_
      refine lv_ishr hx hb dL_build_397 ?_
      refine lv_bipush (v := nI 7) hx hb dL_build_398 (by decide) ?_
      refine lv_iand hx hb dL_build_400 ?_
      refine nv_toi (bt c 11 7) rfl ?_
      refine lv_iconst (v := nI 2) hx hb dL_build_401 (by decide) ?_
      refine lv_icmp_ne (tgt := 432) hx hb dL_build_402 (by decide) (fun c1 => ?_) (fun c1 => ?_)
      · refine W.widen (k := 152 + 20 * j + 14) (n := 1588 + 120 * j + 84) (by omega) (by omega) ?_
        exact b3 S (by rw [← hE]; unfold oKe; rw [if_neg c1]) (hF.up (by omega) (by omega)) H locs ls hP hS hl
      · refine lv_aload_n hx hb dL_build_405 rfl (lv_at hl 6 rfl) ?_
        refine lv_iconst (v := nI 5) hx hb dL_build_406 (by decide) ?_
        refine lv_iload hx hb dL_build_407 (lv_at hl 3 rfl) ?_
        refine lv_bipush (v := nI 14) hx hb dL_build_409 (by decide) ?_
        refine lv_ishr hx hb dL_build_411 ?_
        refine lv_iconst (v := nI 3) hx hb dL_build_412 (by decide) ?_
        refine lv_iand hx hb dL_build_413 ?_
        refine nv_toi (bt c 14 3) rfl ?_
        refine lv_iconst (v := nI 3) hx hb dL_build_414 (by decide) ?_
        refine lv_irem hx hb dL_build_415 (by decide) ?_
        refine nv_toi (rm (bt c 14 3) (nI 3)) rfl ?_
        refine lv_iload hx hb dL_build_416 (lv_at hl 3 rfl) ?_
        refine lv_bipush (v := nI 16) hx hb dL_build_418 (by decide) ?_
        refine lv_ishr hx hb dL_build_420 ?_
        refine lv_iconst (v := nI 3) hx hb dL_build_421 (by decide) ?_
        refine lv_iand hx hb dL_build_422 ?_
        refine nv_toi (bt c 16 3) rfl ?_
        refine lv_iconst (v := nI 3) hx hb dL_build_423 (by decide) ?_
        refine lv_irem hx hb dL_build_424 (by decide) ?_
        refine nv_toi (rm (bt c 16 3) (nI 3)) rfl ?_
        refine lv_iconst (v := nI 0) hx hb dL_build_425 (by decide) ?_
        refine lv_iconst (v := nI 0) hx hb dL_build_426 (by decide) ?_
        refine lv_iconst (v := nI 0) hx hb dL_build_427 (by decide) ?_
        refine nv_kN (vx_runSX (hh := [(0, 69, 150, 75), (70, 75, 150, 75), (76, 82, 150, 75), (83, 89, 150, 75), (90, 109, 150, 75), (110, 116, 150, 75), (117, 136, 150, 75), (137, 142, 150, 75), (143, 149, 150, 75), (0, 69, 155, 77), (70, 75, 155, 77), (76, 82, 155, 77), (83, 89, 155, 77), (90, 109, 155, 77), (110, 116, 155, 77), (117, 136, 155, 77), (137, 142, 155, 77), (143, 149, 155, 77), (0, 69, 160, 79), (70, 75, 160, 79), (76, 82, 160, 79), (83, 89, 160, 79), (90, 109, 160, 79), (110, 116, 160, 79), (117, 136, 160, 79), (137, 142, 160, 79), (143, 149, 160, 79)]) (As := [.ref (AD 0), .int (nI 5), .int (rm (bt c 14 3) (nI 3)), .int (rm (bt c 16 3) (nI 3)), .int (nI 0), .int (nI 0), .int (nI 0)]) (rest := []) ⟨hx, hb, hml, hown, hts⟩ (c_L_act_key l hl9 hI hF (by omega) (rm (bt c 14 3) (nI 3)) (rm (bt c 16 3) (nI 3)) (nI 0) (nI 0) (nI 0)) (vx_cwSW 7 hts gM_build_L_act rfl rfl rfl (by decide +kernel) ⟨Nat.le_of_ble_eq_true rfl, Nat.le_of_ble_eq_true rfl⟩) (nl_pS hT hX tx0 hS hsub hP) rfl rfl hl.1 rfl (lv_room (Nat.le_of_ble_eq_true rfl)) dL_build_428 ⟨by show 152 + 20 * j + 13 + 1 ≤ 412; omega, by show 1588 + 120 * j + 78 + 6 ≤ 3148; omega⟩) hS hsub (fun H locs hP hK hS => ?_)
        refine lv_pop hx hb dL_build_431 rfl ?_
        have hP : qW D cI cC cD cR AD (qV9 S (vKey S.1 (rm (bt c 14 3) (nI 3)) (rm (bt c 16 3) (nI 3)))) H := hP
        have hF : qF (10 * j - 3 + 4 + 1) (qV9 S (vKey S.1 (rm (bt c 14 3) (nI 3)) (rm (bt c 16 3) (nI 3)))) := qV_F hF (by omega) _ (fun b9 h1 h2 h3 => vWf_vKey h1 h2 h3) (vKey_w _ _ _)
        refine W.widen (k := 152 + 20 * j + 14) (n := 1588 + 120 * j + 84) (by omega) (by omega) ?_
        exact b3 _ (by rw [← hE]; unfold oKe; rw [if_pos c1]) (hF.up (by omega) (by omega)) H locs ls hP hS hl
    have b1 : ∀ (S : qT), oDo c (oTh c (oGo c sm (oFr c dm (oSh c dm (oKe c (oTe c S)))))) = T → qF (10 * j - 3 + 3) S → ∀ (H : Heap) (locs : List Loc) (ls : Array Slot), qW D cI cC cD cR AD S H → va_S (aN s.heap.size) s.heap H locs → lv_has ls 9 [(7, .int (nI sm)), (6, .int (nI (dr c dm))), (5, .int (nI dm)), (4, .int c), (3, .int (nI j)), (0, .ref b9), (1, .ref (AD 0)), (2, .int z)] → W p0 l e0 ({ frames := 9, cells := 412, slots := 3148, locals := 184 }) s m0 args below meth c0 H locs (152 + 20 * j + 12) (1588 + 120 * j + 72) Q (F0 m0 342 ls []) := by
      intro S hE hF H locs ls hP hS hl
      refine lv_iload hx hb dL_build_342 (lv_at hl 3 rfl) ?_
      refine lv_bipush (v := nI 11) hx hb dL_build_344 (by decide) ?_
      refine lv_ishr hx hb dL_build_346 ?_
      refine lv_iconst (v := nI 3) hx hb dL_build_347 (by decide) ?_
      refine lv_iand hx hb dL_build_348 ?_
      refine nv_toi (bt c 11 3) rfl ?_
      refine lv_iconst (v := nI 1) hx hb dL_build_349 (by decide) ?_
      refine lv_icmp_ne (tgt := 393) hx hb dL_build_350 (by decide) (fun c1 => ?_) (fun c1 => ?_)
      · refine W.widen (k := 152 + 20 * j + 13) (n := 1588 + 120 * j + 78) (by omega) (by omega) ?_
        exact b2 S (by rw [← hE]; unfold oTe; rw [if_neg c1]) (hF.up (by omega) (by omega)) H locs ls hP hS hl
      · refine lv_aload_n hx hb dL_build_353 rfl (lv_at hl 6 rfl) ?_
        refine lv_iconst (v := nI 4) hx hb dL_build_354 (by decide) ?_
        refine lv_iload hx hb dL_build_355 (lv_at hl 3 rfl) ?_
        refine lv_bipush (v := nI 13) hx hb dL_build_357 (by decide) ?_
        refine lv_ishr hx hb dL_build_359 ?_
        refine lv_iconst (v := nI 3) hx hb dL_build_360 (by decide) ?_
        refine lv_iand hx hb dL_build_361 ?_
        refine nv_toi (bt c 13 3) rfl ?_
        refine lv_iconst (v := nI 3) hx hb dL_build_362 (by decide) ?_
        refine lv_irem hx hb dL_build_363 (by decide) ?_
        refine nv_toi (rm (bt c 13 3) (nI 3)) rfl ?_
        refine lv_iload hx hb dL_build_364 (lv_at hl 3 rfl) ?_
        refine lv_bipush (v := nI 15) hx hb dL_build_366 (by decide) ?_
        refine lv_ishr hx hb dL_build_368 ?_
        refine lv_iconst (v := nI 3) hx hb dL_build_369 (by decide) ?_
        refine lv_iand hx hb dL_build_370 ?_
        refine nv_toi (bt c 15 3) rfl ?_
        refine lv_iload hx hb dL_build_371 (lv_at hl 3 rfl) ?_
        refine lv_bipush (v := nI 17) hx hb dL_build_373 (by decide) ?_
        refine lv_ishr hx hb dL_build_375 ?_
        refine lv_iconst (v := nI 1) hx hb dL_build_376 (by decide) ?_
        refine lv_iand hx hb dL_build_377 ?_
        refine nv_toi (bt c 17 1) rfl ?_
        refine lv_iload hx hb dL_build_378 (lv_at hl 3 rfl) ?_
        refine lv_bipush (v := nI 18) hx hb dL_build_380 (by decide) ?_
        refine lv_ishr hx hb dL_build_382 ?_
        refine lv_bipush (v := nI 7) hx hb dL_build_383 (by decide) ?_
        refine lv_iand hx hb dL_build_385 ?_
        refine nv_toi (bt c 18 7) rfl ?_
        refine lv_iconst (v := nI 5) hx hb dL_build_386 (by decide) ?_
        refine lv_irem hx hb dL_build_387 (by decide) ?_
        refine nv_toi (rm (bt c 18 7) (nI 5)) rfl ?_
        refine lv_iconst (v := nI 0) hx hb dL_build_388 (by decide) ?_
        refine nv_kN (vx_runSX (hh := [(0, 69, 150, 75), (70, 75, 150, 75), (76, 82, 150, 75), (83, 89, 150, 75), (90, 109, 150, 75), (110, 116, 150, 75), (117, 136, 150, 75), (137, 142, 150, 75), (143, 149, 150, 75), (0, 69, 155, 77), (70, 75, 155, 77), (76, 82, 155, 77), (83, 89, 155, 77), (90, 109, 155, 77), (110, 116, 155, 77), (117, 136, 155, 77), (137, 142, 155, 77), (143, 149, 155, 77), (0, 69, 160, 79), (70, 75, 160, 79), (76, 82, 160, 79), (83, 89, 160, 79), (90, 109, 160, 79), (110, 116, 160, 79), (117, 136, 160, 79), (137, 142, 160, 79), (143, 149, 160, 79)]) (As := [.ref (AD 0), .int (nI 4), .int (rm (bt c 13 3) (nI 3)), .int (bt c 15 3), .int (bt c 17 1), .int (rm (bt c 18 7) (nI 5)), .int (nI 0)]) (rest := []) ⟨hx, hb, hml, hown, hts⟩ (c_L_act_tellEnding l hl9 hI hF (by omega) (rm (bt c 13 3) (nI 3)) (bt c 15 3) (bt c 17 1) (rm (bt c 18 7) (nI 5)) (nI 0)) (vx_cwSW 7 hts gM_build_L_act rfl rfl rfl (by decide +kernel) ⟨Nat.le_of_ble_eq_true rfl, Nat.le_of_ble_eq_true rfl⟩) (nl_pS hT hX tx0 hS hsub hP) rfl rfl hl.1 rfl (lv_room (Nat.le_of_ble_eq_true rfl)) dL_build_389 ⟨by show 152 + 20 * j + 12 + 1 ≤ 412; omega, by show 1588 + 120 * j + 72 + 6 ≤ 3148; omega⟩) hS hsub (fun H locs hP hK hS => ?_)
        refine lv_pop hx hb dL_build_392 rfl ?_
        have hP : qW D cI cC cD cR AD (qV9 S (vTell S.1 (rm (bt c 13 3) (nI 3)) (bt c 15 3) (bI ((bt c 17 1) = nI 1)) (rm (bt c 18 7) (nI 5)))) H := hP
        have hF : qF (10 * j - 3 + 3 + 1) (qV9 S (vTell S.1 (rm (bt c 13 3) (nI 3)) (bt c 15 3) (bI ((bt c 17 1) = nI 1)) (rm (bt c 18 7) (nI 5)))) := qV_F hF (by omega) _ (fun b9 h1 h2 h3 => vWf_vTell (bI_le _) h1 h2 h3) (vTell_w _ _ _ _ _)
        refine W.widen (k := 152 + 20 * j + 13) (n := 1588 + 120 * j + 78) (by omega) (by omega) ?_
        exact b2 _ (by rw [← hE]; unfold oTe; rw [if_pos c1]) (hF.up (by omega) (by omega)) H locs ls hP hS hl
    have b0 : ∀ (S : qT), oDo c (oTh c (oGo c sm (oFr c dm (oSh c dm (oKe c (oTe c (oSe c dm sm S))))))) = T → qF (10 * j - 3 + 2) S → ∀ (H : Heap) (locs : List Loc) (ls : Array Slot), qW D cI cC cD cR AD S H → va_S (aN s.heap.size) s.heap H locs → lv_has ls 9 [(7, .int (nI sm)), (6, .int (nI (dr c dm))), (5, .int (nI dm)), (4, .int c), (3, .int (nI j)), (0, .ref b9), (1, .ref (AD 0)), (2, .int z)] → W p0 l e0 ({ frames := 9, cells := 412, slots := 3148, locals := 184 }) s m0 args below meth c0 H locs (152 + 20 * j + 11) (1588 + 120 * j + 66) Q (F0 m0 297 ls []) := by
      intro S hE hF H locs ls hP hS hl
      refine lv_iload hx hb dL_build_297 (lv_at hl 3 rfl) ?_
      refine lv_bipush (v := nI 11) hx hb dL_build_299 (by decide) ?_
      refine lv_ishr hx hb dL_build_301 ?_
      refine lv_iconst (v := nI 3) hx hb dL_build_302 (by decide) ?_
      refine lv_iand hx hb dL_build_303 ?_
      refine nv_toi (bt c 11 3) rfl ?_
      refine lv_if_ne (tgt := 342) hx hb dL_build_304 (by decide) (fun c1 => ?_) (fun c1 => ?_)
      · refine W.widen (k := 152 + 20 * j + 12) (n := 1588 + 120 * j + 72) (by omega) (by omega) ?_
        exact b1 S (by rw [← hE]; unfold oSe; rw [if_neg c1]) (hF.up (by omega) (by omega)) H locs ls hP hS hl
      · refine lv_aload_n hx hb dL_build_307 rfl (lv_at hl 6 rfl) ?_
        refine lv_iconst (v := nI 3) hx hb dL_build_308 (by decide) ?_
        refine lv_iload hx hb dL_build_309 (lv_at hl 3 rfl) ?_
        refine lv_bipush (v := nI 13) hx hb dL_build_311 (by decide) ?_
        refine lv_ishr hx hb dL_build_313 ?_
        refine lv_bipush (v := nI 7) hx hb dL_build_314 (by decide) ?_
        refine lv_iand hx hb dL_build_316 ?_
        refine nv_toi (bt c 13 7) rfl ?_
        refine lv_iload hx hb dL_build_317 (lv_at hl 2 rfl) ?_
        refine lv_irem hx hb dL_build_319 (nI_ne0 (by omega) (by omega)) ?_
        refine nv_toi (rm (bt c 13 7) (nI dm)) rfl ?_
        refine lv_iload hx hb dL_build_320 (lv_at hl 3 rfl) ?_
        refine lv_bipush (v := nI 16) hx hb dL_build_322 (by decide) ?_
        refine lv_ishr hx hb dL_build_324 ?_
        refine lv_bipush (v := nI 7) hx hb dL_build_325 (by decide) ?_
        refine lv_iand hx hb dL_build_327 ?_
        refine nv_toi (bt c 16 7) rfl ?_
        refine lv_iload hx hb dL_build_328 (lv_at hl 0 rfl) ?_
        refine lv_iconst (v := nI 1) hx hb dL_build_330 (by decide) ?_
        refine nv_iadd hx hb dL_build_331 ?_
        refine lv_irem hx hb dL_build_332 (nI_ne0 (by omega) (by omega)) ?_
        refine nv_toi (rm (bt c 16 7) (nI (sm + 1))) rfl ?_
        refine lv_iconst (v := nI 1) hx hb dL_build_333 (by decide) ?_
        refine lv_isub hx hb dL_build_334 ?_
        refine lv_iconst (v := nI 0) hx hb dL_build_335 (by decide) ?_
        refine lv_iconst (v := nI 0) hx hb dL_build_336 (by decide) ?_
        refine lv_iconst (v := nI 0) hx hb dL_build_337 (by decide) ?_
        refine nv_kN (vx_runSX (hh := [(0, 69, 150, 75), (70, 75, 150, 75), (76, 82, 150, 75), (83, 89, 150, 75), (90, 109, 150, 75), (110, 116, 150, 75), (117, 136, 150, 75), (137, 142, 150, 75), (143, 149, 150, 75), (0, 69, 155, 77), (70, 75, 155, 77), (76, 82, 155, 77), (83, 89, 155, 77), (90, 109, 155, 77), (110, 116, 155, 77), (117, 136, 155, 77), (137, 142, 155, 77), (143, 149, 155, 77), (0, 69, 160, 79), (70, 75, 160, 79), (76, 82, 160, 79), (83, 89, 160, 79), (90, 109, 160, 79), (110, 116, 160, 79), (117, 136, 160, 79), (137, 142, 160, 79), (143, 149, 160, 79)]) (As := [.ref (AD 0), .int (nI 3), .int (rm (bt c 13 7) (nI dm)), .int ((rm (bt c 16 7) (nI (sm + 1))) - (nI 1)), .int (nI 0), .int (nI 0), .int (nI 0)]) (rest := []) ⟨hx, hb, hml, hown, hts⟩ (c_L_act_set l hl9 hI hF (by omega) (rm (bt c 13 7) (nI dm)) ((rm (bt c 16 7) (nI (sm + 1))) - (nI 1)) (nI 0) (nI 0) (nI 0)) (vx_cwSW 7 hts gM_build_L_act rfl rfl rfl (by decide +kernel) ⟨Nat.le_of_ble_eq_true rfl, Nat.le_of_ble_eq_true rfl⟩) (nl_pS hT hX tx0 hS hsub hP) rfl rfl hl.1 rfl (lv_room (Nat.le_of_ble_eq_true rfl)) dL_build_338 ⟨by show 152 + 20 * j + 11 + 1 ≤ 412; omega, by show 1588 + 120 * j + 66 + 6 ≤ 3148; omega⟩) hS hsub (fun H locs hP hK hS => ?_)
        refine lv_pop hx hb dL_build_341 rfl ?_
        have hP : qW D cI cC cD cR AD (qV9 S (vSet S.1 (rm (bt c 13 7) (nI dm)) ((rm (bt c 16 7) (nI (sm + 1))) - (nI 1)))) H := hP
        have hF : qF (10 * j - 3 + 2 + 1) (qV9 S (vSet S.1 (rm (bt c 13 7) (nI dm)) ((rm (bt c 16 7) (nI (sm + 1))) - (nI 1)))) := qV_F hF (by omega) _ (fun b9 h1 h2 h3 => vWf_vSet h1 h2 h3) (vSet_w _ _ _)
        refine W.widen (k := 152 + 20 * j + 12) (n := 1588 + 120 * j + 72) (by omega) (by omega) ?_
        exact b1 _ (by rw [← hE]; unfold oSe; rw [if_pos c1]) (hF.up (by omega) (by omega)) H locs ls hP hS hl
    obtain ⟨bb, hG, -⟩ := id hF
    have hGx := hG
    have hk3 : ∀ (v3 : Int32), v3 = kC c dm S0 → ∀ (v2 : Int32), v2 = kB c dm S0 → ∀ (v1 : Int32), v1 = kA c dm S0 → ¬ S0.1 0 = 0 → ∀ (H : Heap) (locs : List Loc) (ls : Array Slot), qW D cI cC cD cR AD S0 H → va_S (aN s.heap.size) s.heap H locs → lv_has ls 9 [(8, .int (nI (bI (0 < bt c 3 3)))), (7, .int (nI sm)), (6, .int (nI (dr c dm))), (5, .int (nI dm)), (4, .int c), (3, .int (nI j)), (0, .ref b9), (1, .ref (AD 0)), (2, .int z)] → W p0 l e0 ({ frames := 9, cells := 412, slots := 3148, locals := 184 }) s m0 args below meth c0 H locs (152 + 20 * j + 9) (1588 + 120 * j + 54) Q (F0 m0 251 ls [.int v3, .int v2, .int v1, .int (nI (dr c dm)), .int (nI 6), .ref (AD 0)]) := by
      intro v3 e3 v2 e2 v1 e1 hz0 H locs ls hP hS hl
      refine lv_iconst (v := nI 0) hx hb dL_build_251 (by decide) ?_
      refine nv_kN (vx_runSX (hh := [(0, 69, 150, 75), (70, 75, 150, 75), (76, 82, 150, 75), (83, 89, 150, 75), (90, 109, 150, 75), (110, 116, 150, 75), (117, 136, 150, 75), (137, 142, 150, 75), (143, 149, 150, 75), (0, 69, 155, 77), (70, 75, 155, 77), (76, 82, 155, 77), (83, 89, 155, 77), (90, 109, 155, 77), (110, 116, 155, 77), (117, 136, 155, 77), (137, 142, 155, 77), (143, 149, 155, 77), (0, 69, 160, 79), (70, 75, 160, 79), (76, 82, 160, 79), (83, 89, 160, 79), (90, 109, 160, 79), (110, 116, 160, 79), (117, 136, 160, 79), (137, 142, 160, 79), (143, 149, 160, 79)]) (As := [.ref (AD 0), .int (nI 6), .int (nI (dr c dm)), .int v1, .int v2, .int v3, .int (nI 0)]) (rest := []) ⟨hx, hb, hml, hown, hts⟩ (c_L_act_knock l hl9 hI hF (by omega) (nI (dr c dm)) v1 v2 v3 (nI 0)) (vx_cwSW 7 hts gM_build_L_act rfl rfl rfl (by decide +kernel) ⟨Nat.le_of_ble_eq_true rfl, Nat.le_of_ble_eq_true rfl⟩) (nl_pS hT hX tx0 hS hsub hP) rfl rfl hl.1 rfl (lv_room (Nat.le_of_ble_eq_true rfl)) dL_build_252 ⟨by show 152 + 20 * j + 9 + 1 ≤ 412; omega, by show 1588 + 120 * j + 54 + 6 ≤ 3148; omega⟩) hS hsub (fun H locs hP hK hS => ?_)
      refine lv_pop hx hb dL_build_255 rfl ?_
      have hP : qW D cI cC cD cR AD (qV9 S0 (vKnock S0.1 (nI (dr c dm)) v1 (bI (v2 = nI 1)) v3)) H := hP
      have hF : qF (10 * j - 3 + 1) (qV9 S0 (vKnock S0.1 (nI (dr c dm)) v1 (bI (v2 = nI 1)) v3)) := qV_F hF (by omega) _ (fun b9 h1 h2 h3 => vWf_vKnock h1 h2 h3) (vKnock_w _ _ _ _ _)
      rw [e1, e2, e3] at hP hF
      have hP : qW D cI cC cD cR AD (oK1 c dm S0) H := hP
      have hF : qF (10 * j - 3 + 1) (oK1 c dm S0) := hF
      refine lv_aload_n hx hb dL_build_256 rfl (lv_at hl 7 rfl) ?_
      refine lv_bipush (v := nI 6) hx hb dL_build_257 (by decide) ?_
      refine lv_iload hx hb dL_build_259 (lv_at hl 4 rfl) ?_
      refine lv_iconst (v := nI 4) hx hb dL_build_261 (by decide) ?_
      refine lv_ishr hx hb dL_build_262 ?_
      refine lv_bipush (v := nI 7) hx hb dL_build_263 (by decide) ?_
      refine lv_iand hx hb dL_build_265 ?_
      refine nv_toi (bt c 4 7) rfl ?_
      refine lv_iload hx hb dL_build_266 (lv_at hl 3 rfl) ?_
      refine lv_irem hx hb dL_build_268 (nI_ne0 (by omega) (by omega)) ?_
      refine nv_toi (rm (bt c 4 7) (nI dm)) rfl ?_
      refine lv_iload hx hb dL_build_269 (lv_at hl 4 rfl) ?_
      refine lv_bipush (v := nI 6) hx hb dL_build_271 (by decide) ?_
      refine lv_ishr hx hb dL_build_273 ?_
      refine lv_iconst (v := nI 3) hx hb dL_build_274 (by decide) ?_
      refine lv_iand hx hb dL_build_275 ?_
      refine nv_toi (bt c 6 3) rfl ?_
      refine lv_iconst (v := nI 3) hx hb dL_build_276 (by decide) ?_
      refine lv_irem hx hb dL_build_277 (by decide) ?_
      refine nv_toi (rm (bt c 6 3) (nI 3)) rfl ?_
      refine lv_iload hx hb dL_build_278 (lv_at hl 4 rfl) ?_
      refine lv_bipush (v := nI 8) hx hb dL_build_280 (by decide) ?_
      refine lv_ishr hx hb dL_build_282 ?_
      refine lv_iconst (v := nI 1) hx hb dL_build_283 (by decide) ?_
      refine lv_iand hx hb dL_build_284 ?_
      refine nv_toi (bt c 8 1) rfl ?_
      refine lv_iload hx hb dL_build_285 (lv_at hl 4 rfl) ?_
      refine lv_bipush (v := nI 9) hx hb dL_build_287 (by decide) ?_
      refine lv_ishr hx hb dL_build_289 ?_
      refine lv_iconst (v := nI 3) hx hb dL_build_290 (by decide) ?_
      refine lv_iand hx hb dL_build_291 ?_
      refine nv_toi (bt c 9 3) rfl ?_
      refine lv_iconst (v := nI 0) hx hb dL_build_292 (by decide) ?_
      refine nv_kN (vx_runSX (hh := [(0, 69, 150, 75), (70, 75, 150, 75), (76, 82, 150, 75), (83, 89, 150, 75), (90, 109, 150, 75), (110, 116, 150, 75), (117, 136, 150, 75), (137, 142, 150, 75), (143, 149, 150, 75), (0, 69, 155, 77), (70, 75, 155, 77), (76, 82, 155, 77), (83, 89, 155, 77), (90, 109, 155, 77), (110, 116, 155, 77), (117, 136, 155, 77), (137, 142, 155, 77), (143, 149, 155, 77), (0, 69, 160, 79), (70, 75, 160, 79), (76, 82, 160, 79), (83, 89, 160, 79), (90, 109, 160, 79), (110, 116, 160, 79), (117, 136, 160, 79), (137, 142, 160, 79), (143, 149, 160, 79)]) (As := [.ref (AD 0), .int (nI 6), .int (rm (bt c 4 7) (nI dm)), .int (rm (bt c 6 3) (nI 3)), .int (bt c 8 1), .int (bt c 9 3), .int (nI 0)]) (rest := []) ⟨hx, hb, hml, hown, hts⟩ (c_L_act_knock l hl9 hI hF (by omega) (rm (bt c 4 7) (nI dm)) (rm (bt c 6 3) (nI 3)) (bt c 8 1) (bt c 9 3) (nI 0)) (vx_cwSW 7 hts gM_build_L_act rfl rfl rfl (by decide +kernel) ⟨Nat.le_of_ble_eq_true rfl, Nat.le_of_ble_eq_true rfl⟩) (nl_pS hT hX tx0 hS hsub hP) rfl rfl hl.1 rfl (lv_room (Nat.le_of_ble_eq_true rfl)) dL_build_293 ⟨by show 152 + 20 * j + 10 + 1 ≤ 412; omega, by show 1588 + 120 * j + 60 + 6 ≤ 3148; omega⟩) hS hsub (fun H locs hP hK hS => ?_)
      refine lv_pop hx hb dL_build_296 rfl ?_
      have hP : qW D cI cC cD cR AD (qV9 (oK1 c dm S0) (vKnock (oK1 c dm S0).1 (rm (bt c 4 7) (nI dm)) (rm (bt c 6 3) (nI 3)) (bI ((bt c 8 1) = nI 1)) (bt c 9 3))) H := hP
      have hF : qF (10 * j - 3 + 1 + 1) (qV9 (oK1 c dm S0) (vKnock (oK1 c dm S0).1 (rm (bt c 4 7) (nI dm)) (rm (bt c 6 3) (nI 3)) (bI ((bt c 8 1) = nI 1)) (bt c 9 3))) := qV_F hF (by omega) _ (fun b9 h1 h2 h3 => vWf_vKnock h1 h2 h3) (vKnock_w _ _ _ _ _)
      have hl := lv_sub hl [1, 2, 3, 4, 5, 6, 7, 8] rfl
      refine W.widen (k := 152 + 20 * j + 11) (n := 1588 + 120 * j + 66) (by omega) (by omega) ?_
      exact b0 _ (by rw [← hT9]; unfold oKn; rw [if_neg hz0]; rfl) hF H locs ls hP hS hl
    have hdd : ¬ S0.1 0 = 0 → dr c dm < S0.1 0 := fun h => by have := Nat.mod_lt (c.toBitVec.toNat % 2 ^ 3) (show 0 < dm by omega); unfold dr; omega
    have hk2 : ∀ (v2 : Int32), v2 = kB c dm S0 → ∀ (v1 : Int32), v1 = kA c dm S0 → ¬ S0.1 0 = 0 → ∀ (H : Heap) (locs : List Loc) (ls : Array Slot), qW D cI cC cD cR AD S0 H → va_S (aN s.heap.size) s.heap H locs → lv_has ls 9 [(8, .int (nI (bI (0 < bt c 3 3)))), (7, .int (nI sm)), (6, .int (nI (dr c dm))), (5, .int (nI dm)), (4, .int c), (3, .int (nI j)), (0, .ref b9), (1, .ref (AD 0)), (2, .int z)] → W p0 l e0 ({ frames := 9, cells := 412, slots := 3148, locals := 184 }) s m0 args below meth c0 H locs (152 + 20 * j + 7) (1588 + 120 * j + 42) Q (F0 m0 224 ls [.int v2, .int v1, .int (nI (dr c dm)), .int (nI 6), .ref (AD 0)]) := by
      intro v2 e2 v1 e1 hz0 H locs ls hP hS hl
      have hdl := hdd hz0
      have hid := iR_nI hdl (by omega)
      refine lv_iload hx hb dL_build_224 (lv_at hl 4 rfl) ?_
      refine lv_bipush (v := nI 8) hx hb dL_build_226 (by decide) ?_
      refine lv_ishr hx hb dL_build_228 ?_
      refine lv_iconst (v := nI 1) hx hb dL_build_229 (by decide) ?_
      refine lv_iand hx hb dL_build_230 ?_
      refine nv_toi (bt c 8 1) rfl ?_
      refine lv_if_ne (tgt := 244) hx hb dL_build_231 (by decide) (fun c1 => ?_) (fun c1 => ?_)
      · refine lv_iload hx hb dL_build_244 (lv_at hl 4 rfl) ?_
        refine lv_bipush (v := nI 9) hx hb dL_build_246 (by decide) ?_
        refine lv_ishr hx hb dL_build_248 ?_
        refine lv_iconst (v := nI 3) hx hb dL_build_249 (by decide) ?_
        refine lv_iand hx hb dL_build_250 ?_
        refine nv_toi (bt c 9 3) rfl ?_
        refine W.widen (k := 152 + 20 * j + 9) (n := 1588 + 120 * j + 54) (by omega) (by omega) ?_
        exact hk3 _ (if_neg c1).symm v2 e2 v1 e1 hz0 H locs ls hP hS hl
      · refine lv_aload_n hx hb dL_build_234 rfl (lv_at hl 7 rfl) ?_
        refine lv_iload hx hb dL_build_235 (lv_at hl 2 rfl) ?_
        refine lv_iconst (v := nI 4) hx hb dL_build_237 (by decide) ?_
        refine nv_kLX (vx_runV (As := [.int (nI (dr c dm)), .int (nI 4)]) (rest := [.int v2, .int v1, .int (nI (dr c dm)), .int (nI 6), .ref (AD 0)]) ⟨hx, hb, hml, hown, hts⟩ (c_X6_doorOf l hl9 (A := cRg AD 0 165) hGx hI cRg_self (nI (dr c dm)) (nI 4)) (cwV 2 hts (goodIn_m gL_build_X6_doorOf wsM_b) rfl rfl rfl (by decide +kernel) ⟨Nat.le_of_ble_eq_true rfl, Nat.le_of_ble_eq_true rfl⟩) (nt_pVn hT hS hsub hP (va_recv hT.1.1 hP.1 (ci := 8) (q0 := 0) rfl rfl)) rfl rfl hl.1 rfl (lv_room (Nat.le_of_ble_eq_true rfl)) dL_build_238 ⟨by show 152 + 20 * j + 7 + 2 ≤ 412; omega, by show 1588 + 120 * j + 42 + 12 ≤ 3148; omega⟩) hS hsub (fun E ce q9 H1 locs1 h0 hE hP1 hK1 hS1 hcell hv9 hcl => absurd ((if_pos hid).trans (if_pos (by decide))) h0) (fun H locs h0 hP hK hS => ?_)
        refine nv_toi (qDoor S0.1 (dr c dm) 4) (by rw [if_pos hid, if_pos (by decide), tN_nI (by omega)]; rfl) ?_
        refine lv_goto (tgt := 251) hx hb dL_build_241 (by decide) ?_
        exact hk3 _ (if_pos c1).symm v2 e2 v1 e1 hz0 H locs ls hP hS hl
    have hk1 : ∀ (v1 : Int32), v1 = kA c dm S0 → ¬ S0.1 0 = 0 → ∀ (H : Heap) (locs : List Loc) (ls : Array Slot), qW D cI cC cD cR AD S0 H → va_S (aN s.heap.size) s.heap H locs → lv_has ls 9 [(8, .int (nI (bI (0 < bt c 3 3)))), (7, .int (nI sm)), (6, .int (nI (dr c dm))), (5, .int (nI dm)), (4, .int c), (3, .int (nI j)), (0, .ref b9), (1, .ref (AD 0)), (2, .int z)] → W p0 l e0 ({ frames := 9, cells := 412, slots := 3148, locals := 184 }) s m0 args below meth c0 H locs (152 + 20 * j + 5) (1588 + 120 * j + 30) Q (F0 m0 202 ls [.int v1, .int (nI (dr c dm)), .int (nI 6), .ref (AD 0)]) := by
      intro v1 e1 hz0 H locs ls hP hS hl
      have hdl := hdd hz0
      have hid := iR_nI hdl (by omega)
      refine lv_iload hx hb dL_build_202 (lv_at hl 0 rfl) ?_
      refine nv_ifb_eq (tgt := 217) hx hb dL_build_204 (by decide) (fun c1 => ?_) (fun c1 => ?_)
      · refine lv_iload hx hb dL_build_217 (lv_at hl 4 rfl) ?_
        refine lv_bipush (v := nI 7) hx hb dL_build_219 (by decide) ?_
        refine lv_ishr hx hb dL_build_221 ?_
        refine lv_iconst (v := nI 1) hx hb dL_build_222 (by decide) ?_
        refine lv_iand hx hb dL_build_223 ?_
        refine nv_toi (bt c 7 1) rfl ?_
        refine W.widen (k := 152 + 20 * j + 7) (n := 1588 + 120 * j + 42) (by omega) (by omega) ?_
        exact hk2 _ (if_neg c1).symm v1 e1 hz0 H locs ls hP hS hl
      · refine lv_aload_n hx hb dL_build_207 rfl (lv_at hl 7 rfl) ?_
        refine lv_iload hx hb dL_build_208 (lv_at hl 2 rfl) ?_
        refine lv_iconst (v := nI 2) hx hb dL_build_210 (by decide) ?_
        refine nv_kLX (vx_runV (As := [.int (nI (dr c dm)), .int (nI 2)]) (rest := [.int v1, .int (nI (dr c dm)), .int (nI 6), .ref (AD 0)]) ⟨hx, hb, hml, hown, hts⟩ (c_X6_doorOf l hl9 (A := cRg AD 0 165) hGx hI cRg_self (nI (dr c dm)) (nI 2)) (cwV 2 hts (goodIn_m gL_build_X6_doorOf wsM_b) rfl rfl rfl (by decide +kernel) ⟨Nat.le_of_ble_eq_true rfl, Nat.le_of_ble_eq_true rfl⟩) (nt_pVn hT hS hsub hP (va_recv hT.1.1 hP.1 (ci := 8) (q0 := 0) rfl rfl)) rfl rfl hl.1 rfl (lv_room (Nat.le_of_ble_eq_true rfl)) dL_build_211 ⟨by show 152 + 20 * j + 5 + 2 ≤ 412; omega, by show 1588 + 120 * j + 30 + 12 ≤ 3148; omega⟩) hS hsub (fun E ce q9 H1 locs1 h0 hE hP1 hK1 hS1 hcell hv9 hcl => absurd ((if_pos hid).trans (if_pos (by decide))) h0) (fun H locs h0 hP hK hS => ?_)
        refine nv_toi (qDoor S0.1 (dr c dm) 2) (by rw [if_pos hid, if_pos (by decide), tN_nI (by omega)]; rfl) ?_
        refine lv_goto (tgt := 224) hx hb dL_build_214 (by decide) ?_
        exact hk2 _ (if_pos c1).symm v1 e1 hz0 H locs ls hP hS hl
    refine lv_iconst (v := nI 1) hx hb dL_build_118 (by decide) ?_
    refine lv_aload_n hx hb dL_build_119 rfl (lv_at hl 3 rfl) ?_
    refine lv_iconst (v := nI 0) hx hb dL_build_120 (by decide) ?_
    refine nv_kLX (vx_runV (As := [.int (nI 0)]) (rest := [.int (nI 1)]) ⟨hx, hb, hml, hown, hts⟩ (c_X6_account l hl9 (A := cRg AD 0 165) hGx hI cRg_self (nI 0)) (cwV 1 hts (goodIn_m gL_build_X6_account wsM_b) rfl rfl rfl (by decide +kernel) ⟨Nat.le_of_ble_eq_true rfl, Nat.le_of_ble_eq_true rfl⟩) (nt_pVn hT hS hsub hP (va_recv hT.1.1 hP.1 (ci := 8) (q0 := 0) rfl rfl)) rfl rfl hl.1 rfl (lv_room (Nat.le_of_ble_eq_true rfl)) dL_build_121 ⟨by show 152 + 20 * j + 0 + 1 ≤ 412; omega, by show 1588 + 120 * j + 0 + 6 ≤ 3148; omega⟩) hS hsub (fun E ce q9 H1 locs1 h0 hE hP1 hK1 hS1 hcell hv9 hcl => absurd (if_pos (by decide)) h0) (fun H locs h0 hP hK hS => ?_)
    refine nv_to (S0.1 0) (if_pos (by decide)) ?_
    refine nv_mmax hx hb (hml.trans hl.1.symm) hown (hts (.methodLink RL 37 Lib.Math.max.name) (by decide +kernel)) (hts (.static Lib.Math.max.name) (by decide +kernel)) (hts (.initialized "java/lang/Math") (by decide +kernel)) (hts (.code Lib.Math.max.name Lib.Math.max.code 2 (some .int)) (by decide +kernel)) (Nat.le_of_ble_eq_true rfl) (Nat.le_of_ble_eq_true rfl) (by show _ ≤ 412; omega) (by show _ ≤ 3148; omega) (by decide) (by omega) dL_build_124 ?_
    rw [← hdm]
    refine lv_istore (lv' := [(5, .int (nI dm)), (4, .int c), (3, .int (nI j)), (0, .ref b9), (1, .ref (AD 0)), (2, .int z)]) hx hb dL_build_127 hl (by decide) rfl (fun ls hl => ?_)
    refine lv_iload hx hb dL_build_129 (lv_at hl 1 rfl) ?_
    refine lv_bipush (v := nI 7) hx hb dL_build_131 (by decide) ?_
    refine lv_iand hx hb dL_build_133 ?_
    refine nv_to (c.toBitVec.toNat % 2 ^ 3) (pk_and c 3 (by decide)) ?_
    refine lv_iload hx hb dL_build_134 (lv_at hl 0 rfl) ?_
    refine nv_irem hx hb dL_build_136 (Nat.lt_of_lt_of_le (Nat.mod_lt _ (by decide)) (by decide)) (by omega) (by omega) ?_
    refine nv_to (dr c dm) rfl ?_
    refine lv_istore (lv' := [(6, .int (nI (dr c dm))), (5, .int (nI dm)), (4, .int c), (3, .int (nI j)), (0, .ref b9), (1, .ref (AD 0)), (2, .int z)]) hx hb dL_build_137 hl (by decide) rfl (fun ls hl => ?_)
    refine lv_iconst (v := nI 1) hx hb dL_build_139 (by decide) ?_
    refine lv_aload_n hx hb dL_build_140 rfl (lv_at hl 5 rfl) ?_
    refine lv_iconst (v := nI 1) hx hb dL_build_141 (by decide) ?_
    refine nv_kLX (vx_runV (As := [.int (nI 1)]) (rest := [.int (nI 1)]) ⟨hx, hb, hml, hown, hts⟩ (c_X6_account l hl9 (A := cRg AD 0 165) hGx hI cRg_self (nI 1)) (cwV 1 hts (goodIn_m gL_build_X6_account wsM_b) rfl rfl rfl (by decide +kernel) ⟨Nat.le_of_ble_eq_true rfl, Nat.le_of_ble_eq_true rfl⟩) (nt_pVn hT hS hsub hP (va_recv hT.1.1 hP.1 (ci := 8) (q0 := 0) rfl rfl)) rfl rfl hl.1 rfl (lv_room (Nat.le_of_ble_eq_true rfl)) dL_build_142 ⟨by show 152 + 20 * j + 1 + 1 ≤ 412; omega, by show 1588 + 120 * j + 6 + 6 ≤ 3148; omega⟩) hS hsub (fun E ce q9 H1 locs1 h0 hE hP1 hK1 hS1 hcell hv9 hcl => absurd (if_pos (by decide)) h0) (fun H locs h0 hP hK hS => ?_)
    refine nv_to (S0.1 1) (if_pos (by decide)) ?_
    refine nv_mmax hx hb (hml.trans hl.1.symm) hown (hts (.methodLink RL 37 Lib.Math.max.name) (by decide +kernel)) (hts (.static Lib.Math.max.name) (by decide +kernel)) (hts (.initialized "java/lang/Math") (by decide +kernel)) (hts (.code Lib.Math.max.name Lib.Math.max.code 2 (some .int)) (by decide +kernel)) (Nat.le_of_ble_eq_true rfl) (Nat.le_of_ble_eq_true rfl) (by show _ ≤ 412; omega) (by show _ ≤ 3148; omega) (by decide) (by omega) dL_build_145 ?_
    rw [← hsm]
    refine lv_istore (lv' := [(7, .int (nI sm)), (6, .int (nI (dr c dm))), (5, .int (nI dm)), (4, .int c), (3, .int (nI j)), (0, .ref b9), (1, .ref (AD 0)), (2, .int z)]) hx hb dL_build_148 hl (by decide) rfl (fun ls hl => ?_)
    refine lv_aload_n hx hb dL_build_150 rfl (lv_at hl 6 rfl) ?_
    refine lv_iconst (v := nI 0) hx hb dL_build_151 (by decide) ?_
    refine nv_kLX (vx_runV (As := [.int (nI 0)]) (rest := []) ⟨hx, hb, hml, hown, hts⟩ (c_X6_account l hl9 (A := cRg AD 0 165) hGx hI cRg_self (nI 0)) (cwV 1 hts (goodIn_m gL_build_X6_account wsM_b) rfl rfl rfl (by decide +kernel) ⟨Nat.le_of_ble_eq_true rfl, Nat.le_of_ble_eq_true rfl⟩) (nt_pVn hT hS hsub hP (va_recv hT.1.1 hP.1 (ci := 8) (q0 := 0) rfl rfl)) rfl rfl hl.1 rfl (lv_room (Nat.le_of_ble_eq_true rfl)) dL_build_152 ⟨by show 152 + 20 * j + 2 + 1 ≤ 412; omega, by show 1588 + 120 * j + 12 + 6 ≤ 3148; omega⟩) hS hsub (fun E ce q9 H1 locs1 h0 hE hP1 hK1 hS1 hcell hv9 hcl => absurd (if_pos (by decide)) h0) (fun H locs h0 hP hK hS => ?_)
    refine nv_to (S0.1 0) (if_pos (by decide)) ?_
    refine nv_if_le (tgt := 297) hx hb dL_build_155 (by decide) (by omega) (fun c1 => ?_) (fun c1 => ?_)
    · refine W.widen (k := 152 + 20 * j + 11) (n := 1588 + 120 * j + 66) (by omega) (by omega) ?_
      exact b0 S0 (by rw [← hT9]; unfold oKn; rw [if_pos c1]) (hF.up (by omega) (by omega)) H locs ls hP hS hl
    · refine lv_iload hx hb dL_build_158 (lv_at hl 3 rfl) ?_
      refine lv_iconst (v := nI 3) hx hb dL_build_160 (by decide) ?_
      refine lv_ishr hx hb dL_build_161 ?_
      refine lv_iconst (v := nI 3) hx hb dL_build_162 (by decide) ?_
      refine lv_iand hx hb dL_build_163 ?_
      refine nv_toi (bt c 3 3) rfl ?_
      refine nv_gt0 hx hb dL_build_164 dL_build_167 dL_build_168 dL_build_171 ?_
      refine lv_istore (lv' := [(8, .int (nI (bI (0 < bt c 3 3)))), (7, .int (nI sm)), (6, .int (nI (dr c dm))), (5, .int (nI dm)), (4, .int c), (3, .int (nI j)), (0, .ref b9), (1, .ref (AD 0)), (2, .int z)]) hx hb dL_build_172 hl (by decide) rfl (fun ls hl => ?_)
      refine lv_aload_n hx hb dL_build_174 rfl (lv_at hl 7 rfl) ?_
      refine lv_bipush (v := nI 6) hx hb dL_build_175 (by decide) ?_
      refine lv_iload hx hb dL_build_177 (lv_at hl 2 rfl) ?_
      refine lv_iload hx hb dL_build_179 (lv_at hl 0 rfl) ?_
      have hdl := hdd c1
      have hid := iR_nI hdl (by omega)
      refine nv_ifb_eq (tgt := 194) hx hb dL_build_181 (by decide) (fun c2 => ?_) (fun c2 => ?_)
      · refine lv_iload hx hb dL_build_194 (lv_at hl 4 rfl) ?_
        refine lv_iconst (v := nI 5) hx hb dL_build_196 (by decide) ?_
        refine lv_ishr hx hb dL_build_197 ?_
        refine lv_iconst (v := nI 3) hx hb dL_build_198 (by decide) ?_
        refine lv_iand hx hb dL_build_199 ?_
        refine nv_toi (bt c 5 3) rfl ?_
        refine lv_iconst (v := nI 3) hx hb dL_build_200 (by decide) ?_
        refine lv_irem hx hb dL_build_201 (by decide) ?_
        refine nv_toi (rm (bt c 5 3) (nI 3)) rfl ?_
        refine W.widen (k := 152 + 20 * j + 5) (n := 1588 + 120 * j + 30) (by omega) (by omega) ?_
        exact hk1 _ (if_neg c2).symm c1 H locs ls hP hS hl
      · refine lv_aload_n hx hb dL_build_184 rfl (lv_at hl 7 rfl) ?_
        refine lv_iload hx hb dL_build_185 (lv_at hl 2 rfl) ?_
        refine lv_iconst (v := nI 1) hx hb dL_build_187 (by decide) ?_
        refine nv_kLX (vx_runV (As := [.int (nI (dr c dm)), .int (nI 1)]) (rest := [.int (nI (dr c dm)), .int (nI 6), .ref (AD 0)]) ⟨hx, hb, hml, hown, hts⟩ (c_X6_doorOf l hl9 (A := cRg AD 0 165) hGx hI cRg_self (nI (dr c dm)) (nI 1)) (cwV 2 hts (goodIn_m gL_build_X6_doorOf wsM_b) rfl rfl rfl (by decide +kernel) ⟨Nat.le_of_ble_eq_true rfl, Nat.le_of_ble_eq_true rfl⟩) (nt_pVn hT hS hsub hP (va_recv hT.1.1 hP.1 (ci := 8) (q0 := 0) rfl rfl)) rfl rfl hl.1 rfl (lv_room (Nat.le_of_ble_eq_true rfl)) dL_build_188 ⟨by show 152 + 20 * j + 3 + 2 ≤ 412; omega, by show 1588 + 120 * j + 18 + 12 ≤ 3148; omega⟩) hS hsub (fun E ce q9 H1 locs1 h0 hE hP1 hK1 hS1 hcell hv9 hcl => absurd ((if_pos hid).trans (if_pos (by decide))) h0) (fun H locs h0 hP hK hS => ?_)
        refine nv_toi (qDoor S0.1 (dr c dm) 1) (by rw [if_pos hid, if_pos (by decide), tN_nI (by omega)]; rfl) ?_
        refine lv_goto (tgt := 202) hx hb dL_build_191 (by decide) ?_
        exact hk1 _ (if_pos c2).symm c1 H locs ls hP hS hl
  have hloop : ∀ (n j : Nat), j + n = 13 → 1 ≤ j → ∀ (S : qT), qL (xZ L xs) n j S = qB9 (xZ L xs) → qF (10 * j - 3) S → ∀ (H : Heap) (locs : List Loc) (ls : Array Slot), qW D cI cC cD cR AD S H → va_S (aN s.heap.size) s.heap H locs → lv_has ls 9 [(3, .int (nI j)), (0, .ref b9), (1, .ref (AD 0)), (2, .int z)] → W p0 l e0 ({ frames := 9, cells := 412, slots := 3148, locals := 184 }) s m0 args below meth c0 H locs (152 + 20 * j) (1588 + 120 * j) Q (F0 m0 105 ls []) := by
    intro n
    induction n with
    | zero =>
      intro j hj hj1 S hE hF H locs ls hP hS hl
      have e9 : j = 13 := by omega
      subst e9
      refine lv_iload_n hx hb dL_build_105 rfl (lv_at hl 0 rfl) ?_
      refine lv_bipush (v := nI 13) hx hb dL_build_106 (by decide) ?_
      refine nv_icmp_ge (tgt := 658) hx hb dL_build_108 (by decide) (by decide) (by decide) (fun _ => ?_) (fun c1 => absurd (by decide) c1)
      refine lv_aload_n hx hb dL_build_658 rfl (lv_at hl 2 rfl) ?_
      have hE : S = qB9 (xZ L xs) := hE
      subst hE
      exact nv_retLn hq hx hb hr (Or.inl ⟨_, rfl⟩) hlocks (by decide) (by decide) (hS.wid (aN_sub hn1)) ⟨AD, rfl, hI, fun i hi => Nat.le_trans hn1 (hAD i hi), hF, hP⟩ dL_build_659
    | succ n ih =>
      intro j hj hj1 S hE hF H locs ls hP hS hl
      refine lv_iload_n hx hb dL_build_105 rfl (lv_at hl 0 rfl) ?_
      refine lv_bipush (v := nI 13) hx hb dL_build_106 (by decide) ?_
      refine nv_icmp_ge (tgt := 658) hx hb dL_build_108 (by decide) (by omega) (by decide) (fun c1 => absurd c1 (by omega)) (fun c1 => ?_)
      refine lv_aload_n hx hb dL_build_111 rfl (lv_at hl 1 rfl) ?_
      refine lv_iload_n hx hb dL_build_112 rfl (lv_at hl 0 rfl) ?_
      refine nv_kS (va_runS (As := [.ref b9, .int (nI j)]) (rest := []) ⟨hx, hb, hml, hown, hts⟩ (c_L_at l (xs := xs) hL j (by omega)) (va_cwS 2 hts (goodIn_m gL_build_L_at wsM_b) rfl rfl rfl (by decide +kernel) ⟨Nat.le_of_ble_eq_true rfl, Nat.le_of_ble_eq_true rfl⟩) (xPre_pS hXs hb9s hnA9 hS) rfl rfl hl.1 rfl (lv_room (Nat.le_of_ble_eq_true rfl)) dL_build_113 ⟨by show 152 + 20 * j + 0 ≤ 412; omega, by show 1588 + 120 * j + 0 ≤ 3148; omega⟩) ?_
      refine nv_toi (xZ L xs j) rfl ?_
      refine lv_istore (lv' := [(4, .int (xZ L xs j)), (3, .int (nI j)), (0, .ref b9), (1, .ref (AD 0)), (2, .int z)]) hx hb dL_build_116 hl (by decide) rfl (fun ls hl => ?_)
      refine hone j (xZ L xs j) S (qI (xZ L xs j) S) hj1 (by omega) rfl hF (fun H locs ls hP hF hS hl => ?_) H locs ls hP hS hl
      refine lv_iinc (v := nI (j + 1)) (lv' := [(3, .int (nI (j + 1))), (0, .ref b9), (1, .ref (AD 0)), (2, .int z)]) hx hb dL_build_652 hl (k := 0) rfl (by show nI _ + Int32.ofInt 1 = _; exact nI_add _ 1) (by decide) rfl (fun ls hl => ?_)
      refine lv_goto (tgt := 105) hx hb dL_build_655 (by decide) ?_
      refine W.widen (k := 152 + 20 * (j + 1)) (n := 1588 + 120 * (j + 1)) (by omega) (by omega) ?_
      exact ih (j + 1) (by omega) (by omega) _ hE hF _ _ _ hP hS hl
  have hdoor : ∀ (n j : Nat), j + n = n3 z → ∀ (S : qT), qL (xZ L xs) 12 1 (oS1 z (qD z n j S)) = qB9 (xZ L xs) → qF j S → ∀ (H : Heap) (locs : List Loc) (ls : Array Slot), qW D cI cC cD cR AD S H → va_S (aN s.heap.size) s.heap H locs → lv_has ls 9 [(3, .int (nI j)), (0, .ref b9), (1, .ref (AD 0)), (2, .int z)] → W p0 l e0 ({ frames := 9, cells := 412, slots := 3148, locals := 184 }) s m0 args below meth c0 H locs (165 + j) (1666 + 6 * j) Q (F0 m0 16 ls []) := by
    have h36 : n3 z ≤ 6 := by have := Nat.mod_lt z.toBitVec.toNat (show 0 < 2 ^ 2 by decide); unfold n3; omega
    intro n
    induction n with
    | zero =>
      intro j hj S hE hF H locs ls hP hS hl
      refine lv_iload_n hx hb dL_build_16 rfl (lv_at hl 0 rfl) ?_
      refine lv_iconst (v := nI 3) hx hb dL_build_17 (by decide) ?_
      refine lv_iload_n hx hb dL_build_18 rfl (lv_at hl 3 rfl) ?_
      refine lv_iconst (v := nI 3) hx hb dL_build_19 (by decide) ?_
      refine lv_iand hx hb dL_build_20 ?_
      refine nv_to (z.toBitVec.toNat % 2 ^ 2) (pk_and z 2 (by decide)) ?_
      refine nv_iadd hx hb dL_build_21 ?_
      refine nv_to (n3 z) rfl ?_
      refine nv_icmp_ge (tgt := 87) hx hb dL_build_22 (by decide) (by omega) (by omega) (fun c1 => ?_) (fun c1 => absurd (show n3 z ≤ j by omega) c1)
      refine lv_aload_n hx hb dL_build_87 rfl (lv_at hl 2 rfl) ?_
      refine lv_iconst (v := nI 1) hx hb dL_build_88 (by decide) ?_
      refine lv_iload_n hx hb dL_build_89 rfl (lv_at hl 3 rfl) ?_
      refine lv_bipush (v := nI 24) hx hb dL_build_90 (by decide) ?_
      refine lv_ishr hx hb dL_build_92 ?_
      refine lv_iconst (v := nI 3) hx hb dL_build_93 (by decide) ?_
      refine lv_iand hx hb dL_build_94 ?_
      refine nv_toi (bt z 24 3) rfl ?_
      refine lv_iconst (v := nI 0) hx hb dL_build_95 (by decide) ?_
      refine lv_iconst (v := nI 0) hx hb dL_build_96 (by decide) ?_
      refine lv_iconst (v := nI 0) hx hb dL_build_97 (by decide) ?_
      refine lv_iconst (v := nI 0) hx hb dL_build_98 (by decide) ?_
      refine nv_kN (vx_runSX (hh := [(0, 69, 150, 75), (70, 75, 150, 75), (76, 82, 150, 75), (83, 89, 150, 75), (90, 109, 150, 75), (110, 116, 150, 75), (117, 136, 150, 75), (137, 142, 150, 75), (143, 149, 150, 75), (0, 69, 155, 77), (70, 75, 155, 77), (76, 82, 155, 77), (83, 89, 155, 77), (90, 109, 155, 77), (110, 116, 155, 77), (117, 136, 155, 77), (137, 142, 155, 77), (143, 149, 155, 77), (0, 69, 160, 79), (70, 75, 160, 79), (76, 82, 160, 79), (83, 89, 160, 79), (90, 109, 160, 79), (110, 116, 160, 79), (117, 136, 160, 79), (137, 142, 160, 79), (143, 149, 160, 79)]) (As := [.ref (AD 0), .int (nI 1), .int (bt z 24 3), .int (nI 0), .int (nI 0), .int (nI 0), .int (nI 0)]) (rest := []) ⟨hx, hb, hml, hown, hts⟩ (c_L_act_threshold l hl9 hI hF (by omega) (bt z 24 3) (nI 0) (nI 0) (nI 0) (nI 0)) (vx_cwSW 7 hts gM_build_L_act rfl rfl rfl (by decide +kernel) ⟨Nat.le_of_ble_eq_true rfl, Nat.le_of_ble_eq_true rfl⟩) (nl_pS hT hX tx0 hS hsub hP) rfl rfl hl.1 rfl (lv_room (Nat.le_of_ble_eq_true rfl)) dL_build_99 ⟨by show 165 + j + 1 ≤ 412; omega, by show 1666 + 6 * j + 6 ≤ 3148; omega⟩) hS hsub (fun H locs hP hK hS => ?_)
      refine lv_pop hx hb dL_build_102 rfl ?_
      have hP : qW D cI cC cD cR AD (qV9 S (vSill S.1 (bt z 24 3))) H := hP
      have hF : qF (j + 1) (qV9 S (vSill S.1 (bt z 24 3))) := qV_F hF (by omega) _ (fun b9 h1 h2 h3 => vWf_vSill h1 h2 h3) (vSill_w _ _)
      refine lv_iconst (v := nI 1) hx hb dL_build_103 (by decide) ?_
      refine lv_istore_n (lv' := [(3, .int (nI 1)), (0, .ref b9), (1, .ref (AD 0)), (2, .int z)]) hx hb dL_build_104 rfl hl (by decide) rfl (fun ls hl => ?_)
      refine W.widen (k := 152 + 20 * 1) (n := 1588 + 120 * 1) (by omega) (by omega) ?_
      exact hloop 12 1 (by decide) (by decide) _ hE (hF.up (by omega) (by decide)) _ _ _ hP hS hl
    | succ n ih =>
      intro j hj S hE hF H locs ls hP hS hl
      refine lv_iload_n hx hb dL_build_16 rfl (lv_at hl 0 rfl) ?_
      refine lv_iconst (v := nI 3) hx hb dL_build_17 (by decide) ?_
      refine lv_iload_n hx hb dL_build_18 rfl (lv_at hl 3 rfl) ?_
      refine lv_iconst (v := nI 3) hx hb dL_build_19 (by decide) ?_
      refine lv_iand hx hb dL_build_20 ?_
      refine nv_to (z.toBitVec.toNat % 2 ^ 2) (pk_and z 2 (by decide)) ?_
      refine nv_iadd hx hb dL_build_21 ?_
      refine nv_to (n3 z) rfl ?_
      refine nv_icmp_ge (tgt := 87) hx hb dL_build_22 (by decide) (by omega) (by omega) (fun c1 => absurd c1 (by omega)) (fun c1 => ?_)
      refine lv_aload_n hx hb dL_build_25 rfl (lv_at hl 2 rfl) ?_
      refine lv_iconst (v := nI 0) hx hb dL_build_26 (by decide) ?_
      refine lv_iload_n hx hb dL_build_27 rfl (lv_at hl 3 rfl) ?_
      refine lv_iconst (v := nI 2) hx hb dL_build_28 (by decide) ?_
      refine lv_iload_n hx hb dL_build_29 rfl (lv_at hl 0 rfl) ?_
      refine nv_iadd hx hb dL_build_30 ?_
      refine lv_ishr hx hb dL_build_31 ?_
      refine lv_iconst (v := nI 3) hx hb dL_build_32 (by decide) ?_
      refine lv_iand hx hb dL_build_33 ?_
      refine nv_toi (bt z (2 + j) 3) rfl ?_
      refine lv_iconst (v := nI 3) hx hb dL_build_34 (by decide) ?_
      refine lv_irem hx hb dL_build_35 (by decide) ?_
      refine nv_toi (rm (bt z (2 + j) 3) (nI 3)) rfl ?_
      refine lv_iload_n hx hb dL_build_36 rfl (lv_at hl 3 rfl) ?_
      refine lv_iconst (v := nI 4) hx hb dL_build_37 (by decide) ?_
      refine lv_iload_n hx hb dL_build_38 rfl (lv_at hl 0 rfl) ?_
      refine nv_iadd hx hb dL_build_39 ?_
      refine lv_ishr hx hb dL_build_40 ?_
      refine lv_iconst (v := nI 3) hx hb dL_build_41 (by decide) ?_
      refine lv_iand hx hb dL_build_42 ?_
      refine nv_toi (bt z (4 + j) 3) rfl ?_
      refine lv_iconst (v := nI 3) hx hb dL_build_43 (by decide) ?_
      refine lv_irem hx hb dL_build_44 (by decide) ?_
      refine nv_toi (rm (bt z (4 + j) 3) (nI 3)) rfl ?_
      refine lv_iload_n hx hb dL_build_45 rfl (lv_at hl 3 rfl) ?_
      refine lv_bipush (v := nI 8) hx hb dL_build_46 (by decide) ?_
      refine lv_iload_n hx hb dL_build_48 rfl (lv_at hl 0 rfl) ?_
      refine nv_iadd hx hb dL_build_49 ?_
      refine lv_ishr hx hb dL_build_50 ?_
      refine lv_iconst (v := nI 1) hx hb dL_build_51 (by decide) ?_
      refine lv_iand hx hb dL_build_52 ?_
      refine nv_toi (bt z (8 + j) 1) rfl ?_
      refine lv_iload_n hx hb dL_build_53 rfl (lv_at hl 3 rfl) ?_
      refine lv_bipush (v := nI 12) hx hb dL_build_54 (by decide) ?_
      refine lv_iload_n hx hb dL_build_56 rfl (lv_at hl 0 rfl) ?_
      refine nv_iadd hx hb dL_build_57 ?_
      refine lv_ishr hx hb dL_build_58 ?_
      refine lv_bipush (v := nI 7) hx hb dL_build_59 (by decide) ?_
      refine lv_iand hx hb dL_build_61 ?_
      refine nv_toi (bt z (12 + j) 7) rfl ?_
      refine lv_bipush (v := nI 6) hx hb dL_build_62 (by decide) ?_
      refine lv_irem hx hb dL_build_64 (by decide) ?_
      refine nv_toi (rm (bt z (12 + j) 7) (nI 6)) rfl ?_
      refine lv_iload_n hx hb dL_build_65 rfl (lv_at hl 3 rfl) ?_
      refine lv_bipush (v := nI 17) hx hb dL_build_66 (by decide) ?_
      refine lv_iload_n hx hb dL_build_68 rfl (lv_at hl 0 rfl) ?_
      refine nv_iadd hx hb dL_build_69 ?_
      refine lv_ishr hx hb dL_build_70 ?_
      refine lv_bipush (v := nI 7) hx hb dL_build_71 (by decide) ?_
      refine lv_iand hx hb dL_build_73 ?_
      refine nv_toi (bt z (17 + j) 7) rfl ?_
      refine lv_bipush (v := nI 6) hx hb dL_build_74 (by decide) ?_
      refine lv_irem hx hb dL_build_76 (by decide) ?_
      refine nv_toi (rm (bt z (17 + j) 7) (nI 6)) rfl ?_
      refine nv_kN (vx_runSX (hh := [(0, 69, 150, 75), (70, 75, 150, 75), (76, 82, 150, 75), (83, 89, 150, 75), (90, 109, 150, 75), (110, 116, 150, 75), (117, 136, 150, 75), (137, 142, 150, 75), (143, 149, 150, 75), (0, 69, 155, 77), (70, 75, 155, 77), (76, 82, 155, 77), (83, 89, 155, 77), (90, 109, 155, 77), (110, 116, 155, 77), (117, 136, 155, 77), (137, 142, 155, 77), (143, 149, 155, 77), (0, 69, 160, 79), (70, 75, 160, 79), (76, 82, 160, 79), (83, 89, 160, 79), (90, 109, 160, 79), (110, 116, 160, 79), (117, 136, 160, 79), (137, 142, 160, 79), (143, 149, 160, 79)]) (As := [.ref (AD 0), .int (nI 0), .int (rm (bt z (2 + j) 3) (nI 3)), .int (rm (bt z (4 + j) 3) (nI 3)), .int (bt z (8 + j) 1), .int (rm (bt z (12 + j) 7) (nI 6)), .int (rm (bt z (17 + j) 7) (nI 6))]) (rest := []) ⟨hx, hb, hml, hown, hts⟩ (c_L_act_door l hl9 hI hF (by omega) (rm (bt z (2 + j) 3) (nI 3)) (rm (bt z (4 + j) 3) (nI 3)) (bt z (8 + j) 1) (rm (bt z (12 + j) 7) (nI 6)) (rm (bt z (17 + j) 7) (nI 6))) (vx_cwSW 7 hts gM_build_L_act rfl rfl rfl (by decide +kernel) ⟨Nat.le_of_ble_eq_true rfl, Nat.le_of_ble_eq_true rfl⟩) (nl_pS hT hX tx0 hS hsub hP) rfl rfl hl.1 rfl (lv_room (Nat.le_of_ble_eq_true rfl)) dL_build_77 ⟨by show 165 + j + 1 ≤ 412; omega, by show 1666 + 6 * j + 6 ≤ 3148; omega⟩) hS hsub (fun H locs hP hK hS => ?_)
      refine lv_pop hx hb dL_build_80 rfl ?_
      have hP : qW D cI cC cD cR AD (qV9 S (vDoor S.1 (rm (bt z (2 + j) 3) (nI 3)) (rm (bt z (4 + j) 3) (nI 3)) (bI ((bt z (8 + j) 1) = nI 1)) (rm (bt z (12 + j) 7) (nI 6)) (rm (bt z (17 + j) 7) (nI 6)))) H := hP
      have hF : qF (j + 1) (qV9 S (vDoor S.1 (rm (bt z (2 + j) 3) (nI 3)) (rm (bt z (4 + j) 3) (nI 3)) (bI ((bt z (8 + j) 1) = nI 1)) (rm (bt z (12 + j) 7) (nI 6)) (rm (bt z (17 + j) 7) (nI 6)))) := qV_F hF (by omega) _ (fun b9 h1 h2 h3 => vWf_vDoor (bI_le _) h1 h2 h3) (vDoor_w _ _ _ _ _ _)
      refine lv_iinc (v := nI (j + 1)) (lv' := [(3, .int (nI (j + 1))), (0, .ref b9), (1, .ref (AD 0)), (2, .int z)]) hx hb dL_build_81 hl (k := 0) rfl (by show nI _ + Int32.ofInt 1 = _; exact nI_add _ 1) (by decide) rfl (fun ls hl => ?_)
      refine lv_goto (tgt := 16) hx hb dL_build_84 (by decide) ?_
      refine W.widen (k := 165 + (j + 1)) (n := 1666 + 6 * (j + 1)) (by omega) (by omega) ?_
      exact ih (j + 1) (by omega) _ hE hF _ _ _ hP hS hl
  have hl := lv_sub hl [0, 3, 2, 1] rfl
  refine hdoor (n3 z) 0 (by omega) qN (by rw [← hz9]; rfl) qN_F _ _ _ hP hS hl
