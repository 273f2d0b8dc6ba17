theorem nI_nn {k : Nat} (h : k < 2 ^ 31) : (0 : Int32) ≤ nI k := by
  rw [Int32.le_iff_toInt_le, Int32.toInt_zero, nI_toInt h]; omega
theorem sh_neg : ∀ k, k ≤ 4 → (nI 24 - nI (8 * k) < 0 ↔ k = 4) := by decide +kernel
theorem sh_next : ∀ k, k < 4 → nI 24 - nI (8 * k) + Int32.ofInt (-8) = nI 24 - nI (8 * (k + 1)) := by decide +kernel
theorem apI_z {F : Nat → Nat} {n k : Nat} {p : Int32} (h : bO p k = 0) : apI F n p (k + 1) = apI F n p k := if_pos h
theorem apI_nz {F : Nat → Nat} {n k : Nat} {p : Int32} (h : ¬ bO p k = 0) : apI F n p (k + 1) = (va_up (apI F n p k).1 (apI F n p k).2 (bO p k), (apI F n p k).2 + 1) := if_neg h
theorem tk_b {w c : Nat} (h1 : 200 ≤ w) (h2 : w < 206) (hc : c < 128) : ¬ vX w c = -2 ↔ okI w (nI c) := by
  rw [(vX_ok w h1 h2 c hc).1]
  exact Decidable.not_not
theorem tk_fin {D : va_G} {cl : List vw_C} {H : Heap} {cI cC : ClassId} {x : Nat → Nat} {V : Nat → Int32} {SA : Nat → Nat} {o pl ty vc w c : Nat} (h1 : 200 ≤ w) (h2 : w < 206) (hc : c < 128) (hP : va_P D cl (iw cI cC x (if vX w c = -2 then V else upd V vc (vX w c)) SA o pl ty (if vX w c = -2 then vc else vc + 1)) H) : va_P D cl (iw cI cC x (if okI w (nI c) ∧ 200 ≤ w then upd V vc (vI w (nI c)) else V) SA o pl ty (if okI w (nI c) ∧ 200 ≤ w then vc + 1 else vc)) H := by
  have z := vX_ok w h1 h2 c hc
  by_cases q : okI w (nI c)
  · have n2 : ¬ vX w c = -2 := fun y => z.1.mp y q
    rw [if_neg n2, if_neg n2, z.2 q] at hP
    rw [if_pos ⟨q, h1⟩, if_pos ⟨q, h1⟩]; exact hP
  · have n2 : vX w c = -2 := z.1.mpr q
    rw [if_pos n2, if_pos n2] at hP
    rw [if_neg (fun y => q y.1), if_neg (fun y => q y.1)]; exact hP
theorem pw_lit {w : Nat} (hw : w < 2 ^ 31) (h1 : ¬ nI w = nI 35) (h2 : ¬ nI w = nI 67) (h3 : ¬ nI w = nI 69) (h4 : ¬ nI w = nI 71) (h5 : ¬ nI w = nI 78) (h6 : ¬ nI w = nI 84) : pw w = w := by
  unfold pw
  rw [if_neg (fun q => h1 (by rw [q])), if_neg (fun q => h6 (by rw [q])), if_neg (fun q => h4 (by rw [q])), if_neg (fun q => h5 (by rw [q])), if_neg (fun q => h2 (by rw [q])), if_neg (fun q => h3 (by rw [q]))]
theorem nv9_c (w : Nat) (l : List Nat) : nv9 (w :: l) = if w < 200 then nv9 l else nv9 l + 1 := rfl
theorem nv9_ap : ∀ (l1 l2 : List Nat), nv9 (l1 ++ l2) = nv9 l1 + nv9 l2
  | [], l2 => (Nat.zero_add _).symm
  | w :: l1, l2 => by
    rw [List.cons_append, nv9_c, nv9_c, nv9_ap l1 l2]
    by_cases h : w < 200
    · rw [if_pos h, if_pos h]
    · rw [if_neg h, if_neg h]; omega
section EM
variable {F : Nat → Nat} {ty sp k j : Nat}
theorem pat_s (hk : k < 9) (hj : j < sLen.getD (4 + k) 0) : pat k = (pat k).take j ++ pw (sch (4 + k) j) :: (pat k).drop (j + 1) ∧ (pat k).take (j + 1) = (pat k).take j ++ [pw (sch (4 + k) j)] := by
  obtain ⟨h1, h2⟩ := pat_pw k hk
  have h3 := h2 j hj
  have h4 : (pat k).take (j + 1) = (pat k).take j ++ [pw (sch (4 + k) j)] := by rw [List.take_add_one, h3]; rfl
  refine ⟨?_, h4⟩
  have h5 := List.take_append_drop (j + 1) (pat k)
  rw [h4, List.append_assoc] at h5
  exact h5.symm
theorem em_ok (hk : k < 9) (hj : j < sLen.getD (4 + k) 0) (hr : rn F ty ((pat k).take j) (sp, 0) = (sp + j, 0)) (h : okI (pw (sch (4 + k) j)) (hrx F ty (sp + j))) : rn F ty ((pat k).take (j + 1)) (sp, 0) = (sp + (j + 1), 0) := by
  rw [(pat_s hk hj).2, rn_ap, hr]
  show st1 F ty (pw (sch (4 + k) j)) (sp + j, 0) = _
  rw [st1_ok (E := (sp + j, 0)) rfl h]
  rfl
theorem em_bad (hk : k < 9) (hj : j < sLen.getD (4 + k) 0) (hr : rn F ty ((pat k).take j) (sp, 0) = (sp + j, 0)) (h : ¬ okI (pw (sch (4 + k) j)) (hrx F ty (sp + j))) : eM F ty sp k = (sp + j, 1) := by
  show rn F ty (pat k) (sp, 0) = _
  rw [(pat_s hk hj).1, rn_ap, hr]
  show rn F ty ((pat k).drop (j + 1)) (st1 F ty (pw (sch (4 + k) j)) (sp + j, 0)) = _
  rw [st1_bad (E := (sp + j, 0)) h, rn_end (show ¬ ((sp + j, 0).1, 1).2 = 0 from Nat.one_ne_zero)]
  show (sp + j, if _ = [] then 1 else 1) = _
  split <;> rfl
theorem em_out (hj : ty ≤ sp + j) (w : Nat) : ¬ okI w (hrx F ty (sp + j)) := fun q => absurd (okI_lt q) (Nat.not_lt.mpr hj)
theorem em_all (hk : k < 9) (hj : j = sLen.getD (4 + k) 0) (hr : rn F ty ((pat k).take j) (sp, 0) = (sp + j, 0)) : eM F ty sp k = (sp + j, 0) := by
  rw [List.take_of_length_le (by rw [(pat_pw k hk).1, hj]; exact Nat.le_refl _)] at hr
  exact hr
theorem em_V {T : Nat → Int32} (hk : k < 9) (hj : j < sLen.getD (4 + k) 0) (hr : rn F ty ((pat k).take j) (sp, 0) = (sp + j, 0)) {V1 : Nat → Int32} {vc1 : Nat} (h1 : V1 = (go F ty ((pat k).take j) (sp, 0) T 0).2) (h2 : vc1 = nv9 ((pat k).take j)) {x : Int32} (hx : hrx F ty (sp + j) = x) (h : okI (pw (sch (4 + k) j)) x) :
    (if okI (pw (sch (4 + k) j)) x ∧ 200 ≤ pw (sch (4 + k) j) then upd V1 vc1 (vI (pw (sch (4 + k) j)) x) else V1) = (go F ty ((pat k).take (j + 1)) (sp, 0) T 0).2 ∧ (if okI (pw (sch (4 + k) j)) x ∧ 200 ≤ pw (sch (4 + k) j) then vc1 + 1 else vc1) = nv9 ((pat k).take (j + 1)) := by
  rw [(pat_s hk hj).2, go_snoc, nv9_ap, hr, hx, nv9_c]
  by_cases q : pw (sch (4 + k) j) < 200
  · have n : ¬ (okI (pw (sch (4 + k) j)) x ∧ 200 ≤ pw (sch (4 + k) j)) := fun z => absurd z.2 (by omega)
    rw [if_neg n, if_neg n, if_pos q, if_pos q]
    exact ⟨h1, h2⟩
  · have n : okI (pw (sch (4 + k) j)) x ∧ 200 ≤ pw (sch (4 + k) j) := ⟨h, by omega⟩
    rw [if_pos n, if_pos n, if_neg q, if_neg q, h1, h2, Nat.zero_add]
    exact ⟨rfl, rfl⟩
theorem em_vc (hk : k < 9) (hj : j < sLen.getD (4 + k) 0) (h : 200 ≤ pw (sch (4 + k) j)) : nv9 ((pat k).take j) < 5 := by
  have h1 := (pat_nv k hk).1
  rw [(pat_s hk hj).1, nv9_ap] at h1
  have h2 : 1 ≤ nv9 (pw (sch (4 + k) j) :: (pat k).drop (j + 1)) := by
    rw [nv9_c, if_neg (by omega)]; omega
  omega
theorem eM_le (hk : k < 9) : (eM F ty sp k).1 ≤ sp + 10 ∧ ((eM F ty sp k).2 = 0 ↔ (eM F ty sp k).1 = sp + sLen.getD (4 + k) 0) := by
  have h1 := (pat_pw k hk).1
  have h2 := sLen_lt (4 + k) (by omega)
  rcases rn_flag (F := F) (ty := ty) (l := pat k) (E := (sp, 0)) rfl with ⟨a, b⟩ | ⟨a, b, c⟩
  · have b : (eM F ty sp k).1 = sp + (pat k).length := b
    exact ⟨by omega, fun _ => by omega, fun _ => a⟩
  · have b : (eM F ty sp k).1 < sp + (pat k).length := b
    exact ⟨by omega, fun q => absurd q a, fun q => by omega⟩
theorem fm_b : ∀ k, k ≤ 9 → fm F ty sp k ≤ sp + 10
  | 0, _ => Nat.le_add_right _ _
  | k + 1, h => by
    have h1 := fm_b k (by omega)
    have h2 := (eM_le (F := F) (ty := ty) (sp := sp) (k := k) (by omega)).1
    show max _ _ ≤ _
    omega
end EM
def sQr (v : Nat) : Array Value → State → Outcome → State → Prop := va_Sr (fun k => k = v) (fun k => .ref k)
section NSR
variable {p : Program} {l : Launch} {e : Env} {R : Room} {s : State} {m : MethodId} {args : Array Value} {below : List Frame} {meth : Method} {c : Code} {H : Heap} {locs : List Loc} {cells slots : Nat} {Q : State → Prop}
variable {cc : ByteArray} {pc : Nat} {ls : Array Slot} {rest st0 : List Value}
theorem nv_retSr {v : Nat} {n : String} (hq : ∀ t, MQ below (sQr v) args s 0 0 (fun _ => False) t → Q t) (hx : p.tables.exec = Jvm.exec) (hb : c.code = cc) (hr : meth.sig.returnType = some (.object n)) (hlocks : meth.locks = false) (hdg : decode cc pc = .ok (.areturn, 1)) : W p l e R s m args below meth c s.heap [] 0 0 Q (F0 m pc ls [.ref v]) :=
  W.mono hq (W.aret hx hb hr (Or.inl ⟨_, rfl⟩) (Or.inr ⟨_, rfl⟩) (fun t ht _ => ⟨v, rfl, rfl, ht⟩) (fun _ h => by cases h) hdg hlocks)
theorem nv_kSr {v : Nat} {a : Array Value} (hr : va_Run p l e R s m args below meth c H locs cells slots 0 0 (F0 m pc ls st0) rest (sQr v a) (fun _ => False)) (k : W p l e R s m args below meth c H locs cells slots Q (F0 m (pc + 3) ls (.ref v :: rest))) : W p l e R s m args below meth c H locs cells slots Q (F0 m pc ls st0) :=
  va_csr hr.run (fun k9 h9 => by subst h9; exact k)
end NSR

set_option maxHeartbeats 1000000 in
set_option maxRecDepth 100000 in
theorem c_X2_empty (l : Launch) {D : va_G} {cI cC cD cR : ClassId} {sa : sA} {A : Nat → Prop} {x : Nat → Nat} {V : Nat → Int32} {SA : Nat → Nat} {o pl ty vc : Nat} (hD : ∀ V S fs, va_D A [(x 0, .inr (4, fs)), (x 1, .inl (cI, 5, .inl V)), (x 2, .inl (cC, 60, .inl (gN S)))])  : Met l yX2_empty wsX2_empty ({ frames := 0, cells := 0, slots := 0, locals := 0 }) (va_Pc [.ref (x 0)] (tPre D [(cI, .int), (cC, .char), (cD, .object "DoorDialect$Door"), (cR, .object "DoorDialect$House")] nN sa A (fun H => va_P D vwCl [(x 0, .inr (4, [.ref (x 1), .int (nI o), .int (nI pl), .int (nI ty), .ref (x 2), .int (nI vc)])), (x 1, .inl (cI, 5, .inl V)), (x 2, .inl (cC, 60, .inl (gN SA)))] H))) (gQv ((fun H => va_P D vwCl (iw cI cC x (V) (SA) (o) (pl) (0) (vc)) H)) A) 0 0 A := by
  refine nv_met (cc := cX2_empty) (maxL := 1) (ret := none) (by decide) rfl (Nat.le_of_ble_eq_true rfl) ?_
  intro p0 e0 s m0 args below meth c0 Q hq hargs hnA hpre ls hl
  obtain ⟨hx, hb, hr, hts, hown, hlocks, hml⟩ := hnA
  obtain ⟨hP, hT⟩ := hpre
  have hK := hT.1
  have hown : s.vm.findClass RX2 = some m0.cls := hown
  have hP : va_P D vwCl [(x 0, .inr (4, [.ref (x 1), .int (nI o), .int (nI pl), .int (nI ty), .ref (x 2), .int (nI vc)])), (x 1, .inl (cI, 5, .inl V)), (x 2, .inl (cC, 60, .inl (gN SA)))] s.heap := hP
  have hl : lv_has ls 1 [(0, .ref (x 0))] := hl
  have hS : va_S A s.heap s.heap [] := va_S.rf
  have in_X2 : ∀ w ∈ wsX20, w ∈ wsX2_empty := by decide +kernel
  have fl_19 := hts (.fieldLink RX2 19 "DoorDialect$Input" "length" "I") (by decide +kernel)
  refine lv_aload_n hx hb dX2_empty_0 rfl (lv_at hl 0 rfl) ?_
  refine lv_iconst (v := nI 0) hx hb dX2_empty_1 (by decide) ?_
  refine va_put (D := D) (ci := 4) (v := .int (nI 0)) (ty := .int) (C := RX2) (T := TX2) (N := 6) hx hb hts in_X2 tyX2 tyX2_ok nmX2 hown hK.1 hP (hD _ _ _) hS 0 rfl rfl 3 (by decide) fl_19 (fun _ h9 => h9) rfl (by decide +kernel) rfl rfl (Nat.le_of_ble_eq_true rfl) dX2_empty_2 (fun H locs hP _ hS => ?_)
  have hP : va_P D vwCl [(x 0, .inr (4, [.ref (x 1), .int (nI o), .int (nI pl), .int (nI 0), .ref (x 2), .int (nI vc)])), (x 1, .inl (cI, 5, .inl V)), (x 2, .inl (cC, 60, .inl (gN SA)))] H := hP
  exact nv_retGv hq hx hb hr hlocks hS (hP) dX2_empty_5

set_option maxHeartbeats 1000000 in
set_option maxRecDepth 100000 in
theorem c_X2_rewind (l : Launch) {D : va_G} {cI cC cD cR : ClassId} {sa : sA} {A : Nat → Prop} {x : Nat → Nat} {V : Nat → Int32} {SA : Nat → Nat} {o pl ty vc : Nat} (hD : ∀ V S fs, va_D A [(x 0, .inr (4, fs)), (x 1, .inl (cI, 5, .inl V)), (x 2, .inl (cC, 60, .inl (gN S)))])  : Met l yX2_rewind wsX2_rewind ({ frames := 0, cells := 0, slots := 0, locals := 0 }) (va_Pc [.ref (x 0)] (tPre D [(cI, .int), (cC, .char), (cD, .object "DoorDialect$Door"), (cR, .object "DoorDialect$House")] nN sa A (fun H => va_P D vwCl [(x 0, .inr (4, [.ref (x 1), .int (nI o), .int (nI pl), .int (nI ty), .ref (x 2), .int (nI vc)])), (x 1, .inl (cI, 5, .inl V)), (x 2, .inl (cC, 60, .inl (gN SA)))] H))) (gQv ((fun H => va_P D vwCl (iw cI cC x (V) (SA) (o) (0) (ty) (vc)) H)) A) 0 0 A := by
  refine nv_met (cc := cX2_rewind) (maxL := 1) (ret := none) (by decide) rfl (Nat.le_of_ble_eq_true rfl) ?_
  intro p0 e0 s m0 args below meth c0 Q hq hargs hnA hpre ls hl
  obtain ⟨hx, hb, hr, hts, hown, hlocks, hml⟩ := hnA
  obtain ⟨hP, hT⟩ := hpre
  have hK := hT.1
  have hown : s.vm.findClass RX2 = some m0.cls := hown
  have hP : va_P D vwCl [(x 0, .inr (4, [.ref (x 1), .int (nI o), .int (nI pl), .int (nI ty), .ref (x 2), .int (nI vc)])), (x 1, .inl (cI, 5, .inl V)), (x 2, .inl (cC, 60, .inl (gN SA)))] s.heap := hP
  have hl : lv_has ls 1 [(0, .ref (x 0))] := hl
  have hS : va_S A s.heap s.heap [] := va_S.rf
  have in_X2 : ∀ w ∈ wsX20, w ∈ wsX2_rewind := by decide +kernel
  have fl_23 := hts (.fieldLink RX2 23 "DoorDialect$Input" "place" "I") (by decide +kernel)
  refine lv_aload_n hx hb dX2_rewind_0 rfl (lv_at hl 0 rfl) ?_
  refine lv_iconst (v := nI 0) hx hb dX2_rewind_1 (by decide) ?_
  refine va_put (D := D) (ci := 4) (v := .int (nI 0)) (ty := .int) (C := RX2) (T := TX2) (N := 6) hx hb hts in_X2 tyX2 tyX2_ok nmX2 hown hK.1 hP (hD _ _ _) hS 0 rfl rfl 2 (by decide) fl_23 (fun _ h9 => h9) rfl (by decide +kernel) rfl rfl (Nat.le_of_ble_eq_true rfl) dX2_rewind_2 (fun H locs hP _ hS => ?_)
  have hP : va_P D vwCl [(x 0, .inr (4, [.ref (x 1), .int (nI o), .int (nI 0), .int (nI ty), .ref (x 2), .int (nI vc)])), (x 1, .inl (cI, 5, .inl V)), (x 2, .inl (cC, 60, .inl (gN SA)))] H := hP
  exact nv_retGv hq hx hb hr hlocks hS (hP) dX2_rewind_5

set_option maxHeartbeats 1000000 in
set_option maxRecDepth 100000 in
theorem c_X2_addPacked (l : Launch) {D : va_G} {cI cC cD cR : ClassId} {sa : sA} {A : Nat → Prop} {x : Nat → Nat} {V : Nat → Int32} {SA : Nat → Nat} {o pl ty vc : Nat} (hD : ∀ V S fs, va_D A [(x 0, .inr (4, fs)), (x 1, .inl (cI, 5, .inl V)), (x 2, .inl (cC, 60, .inl (gN S)))]) (p : Int32) (hap : sm (bC p) 4 ≤ 4) (h60 : ty + sm (bC p) 4 ≤ 60) : Met l yX2_addPacked wsX2_addPacked ({ frames := 0, cells := 0, slots := 0, locals := 0 }) (va_Pc [.ref (x 0), .int p] (tPre D [(cI, .int), (cC, .char), (cD, .object "DoorDialect$Door"), (cR, .object "DoorDialect$House")] nN sa A (fun H => va_P D vwCl [(x 0, .inr (4, [.ref (x 1), .int (nI o), .int (nI pl), .int (nI ty), .ref (x 2), .int (nI vc)])), (x 1, .inl (cI, 5, .inl V)), (x 2, .inl (cC, 60, .inl (gN SA)))] H))) (gQv ((fun H => va_P D vwCl (iw cI cC x (V) ((apI SA ty p 4).1) (o) (pl) ((apI SA ty p 4).2) (vc)) H)) A) 0 0 A := by
  refine nv_met (cc := cX2_addPacked) (maxL := 4) (ret := none) (by decide) rfl (Nat.le_of_ble_eq_true rfl) ?_
  intro p0 e0 s m0 args below meth c0 Q hq hargs hnA hpre ls hl
  obtain ⟨hx, hb, hr, hts, hown, hlocks, hml⟩ := hnA
  obtain ⟨hP, hT⟩ := hpre
  have hK := hT.1
  have hown : s.vm.findClass RX2 = some m0.cls := hown
  have hP : va_P D vwCl [(x 0, .inr (4, [.ref (x 1), .int (nI o), .int (nI pl), .int (nI ty), .ref (x 2), .int (nI vc)])), (x 1, .inl (cI, 5, .inl V)), (x 2, .inl (cC, 60, .inl (gN SA)))] s.heap := hP
  have hl : lv_has ls 4 [(0, .ref (x 0)), (1, .int p)] := hl
  have hS : va_S A s.heap s.heap [] := va_S.rf
  have in_X2 : ∀ w ∈ wsX20, w ∈ wsX2_addPacked := by decide +kernel
  have fl_15 := hts (.fieldLink RX2 15 "DoorDialect$Input" "signs" "[C") (by decide +kernel)
  have fl_19 := hts (.fieldLink RX2 19 "DoorDialect$Input" "length" "I") (by decide +kernel)
  refine lv_bipush (v := nI 24) hx hb dX2_addPacked_0 (by decide) ?_
  refine lv_istore_n (lv' := [(2, .int (nI 24)), (0, .ref (x 0)), (1, .int p)]) hx hb dX2_addPacked_2 rfl hl (by decide) rfl (fun ls hl => ?_)
  rw [show nI 24 = nI 24 - nI (8 * 0) from by decide] at hl
  have hloop1 : ∀ (nn : Nat) (k : Nat), (k ≤ 4) → 4 - k < nn → ∀ (H : Heap) (locs : List Loc), va_P D vwCl [(x 0, .inr (4, [.ref (x 1), .int (nI o), .int (nI pl), .int (nI ((apI SA ty p k).2)), .ref (x 2), .int (nI vc)])), (x 1, .inl (cI, 5, .inl V)), (x 2, .inl (cC, 60, .inl (gN ((apI SA ty p k).1))))] H → va_S A s.heap H locs → ∀ (ls : Array Slot), lv_has ls 4 [(2, .int (nI 24 - nI (8 * k))), (0, .ref (x 0)), (1, .int p)] → W p0 l e0 ({ frames := 0, cells := 0, slots := 0, locals := 0 }) s m0 args below meth c0 H locs 0 0 Q (F0 m0 3 ls []) := by
    intro nn3
    induction nn3 with
    | zero => intro k hk hn0 _ _ _ _ _ _; exact absurd hn0 (Nat.not_lt_zero _)
    | succ nn3 ih3 =>
      intro k hk hn3 H locs hP hS ls hl
      have hP : va_P D vwCl [(x 0, .inr (4, [.ref (x 1), .int (nI o), .int (nI pl), .int (nI ((apI SA ty p k).2)), .ref (x 2), .int (nI vc)])), (x 1, .inl (cI, 5, .inl V)), (x 2, .inl (cC, 60, .inl (gN ((apI SA ty p k).1))))] H := hP
      refine lv_iload_n hx hb dX2_addPacked_3 rfl (lv_at hl 0 rfl) ?_
      refine lv_if_lt (tgt := 55) hx hb dX2_addPacked_4 (by decide) (fun c2 => ?_) (fun c2 => ?_)
      · have hk4 : k = 4 := (sh_neg k (by omega)).mp c2
        exact nv_retGv hq hx hb hr hlocks hS (by rw [hk4] at hP; exact hP) dX2_addPacked_55
      · have hk4 : k < 4 := by rcases Nat.lt_or_ge k 4 with h | h; exact h; exact absurd ((sh_neg k (by omega)).mpr (by omega)) c2
        refine lv_iload_n hx hb dX2_addPacked_7 rfl (lv_at hl 2 rfl) ?_
        refine lv_iload_n hx hb dX2_addPacked_8 rfl (lv_at hl 0 rfl) ?_
        refine lv_iushr (v := (p.toUInt32 >>> ((nI 24 - nI (8 * k)).toUInt32 &&& Int32.toUInt32 31)).toInt32) hx hb dX2_addPacked_9 (rfl) ?_
        refine lv_sipush (v := nI 255) hx hb dX2_addPacked_10 (by decide) ?_
        refine lv_iand hx hb dX2_addPacked_13 ?_
        refine nv_to (bO p k) (bO_eq p k (by omega)) ?_
        refine lv_istore_n (lv' := [(3, .int (nI (bO p k))), (2, .int (nI 24 - nI (8 * k))), (0, .ref (x 0)), (1, .int p)]) hx hb dX2_addPacked_14 rfl hl (by decide) rfl (fun ls hl => ?_)
        refine lv_iload_n hx hb dX2_addPacked_15 rfl (lv_at hl 0 rfl) ?_
        refine nv_if_eq (tgt := 49) hx hb dX2_addPacked_16 (by decide) (by first | omega | (have := bO_lt p k; omega) | (have := apI_le (F := SA) (k := k) hap h60 (by omega); omega)) (fun c3 => ?_) (fun c3 => ?_)
        · refine lv_iinc (v := nI 24 - nI (8 * (k + 1))) (lv' := [(2, .int (nI 24 - nI (8 * (k + 1)))), (3, .int (nI (bO p k))), (0, .ref (x 0)), (1, .int p)]) hx hb dX2_addPacked_49 hl (k := 1) rfl (sh_next k (by omega)) (by decide) rfl (fun ls hl => ?_)
          refine lv_goto (tgt := 3) hx hb dX2_addPacked_52 (by decide) ?_
          exact ih3  (k + 1) ((by omega)) (by omega) _ _ (by rw [apI_z c3]; exact hP) hS ls (lv_sub hl [0, 2, 3] rfl)
        · have hlt := apI_lt (F := SA) hap h60 hk4 c3
          refine lv_aload_n hx hb dX2_addPacked_19 rfl (lv_at hl 2 rfl) ?_
          refine va_get (D := D) (ci := 4) (v := .int (nI ((apI SA ty p k).2))) (C := RX2) (T := TX2) (N := 6) hx hb hts in_X2 hown hK.1 hP 0 rfl rfl 3 (by decide) fl_19 (fun _ h9 => h9) rfl dX2_addPacked_20 ?_
          refine lv_bipush (v := nI 60) hx hb dX2_addPacked_23 (by decide) ?_
          refine nv_icmp_ge (tgt := 49) hx hb dX2_addPacked_25 (by decide) (by first | omega | (have := bO_lt p k; omega) | (have := apI_le (F := SA) (k := k) hap h60 (by omega); omega)) (by first | omega | (have := bO_lt p k; omega) | (have := apI_le (F := SA) (k := k) hap h60 (by omega); omega)) (fun c4 => ?_) (fun c4 => ?_)
          · exfalso; omega
          · refine lv_aload_n hx hb dX2_addPacked_28 rfl (lv_at hl 2 rfl) ?_
            refine va_get (D := D) (ci := 4) (v := .ref (x 2)) (C := RX2) (T := TX2) (N := 6) hx hb hts in_X2 hown hK.1 hP 0 rfl rfl 4 (by decide) fl_15 (fun _ h9 => h9) rfl dX2_addPacked_29 ?_
            refine lv_aload_n hx hb dX2_addPacked_32 rfl (lv_at hl 2 rfl) ?_
            refine va_get (D := D) (ci := 4) (v := .int (nI ((apI SA ty p k).2))) (C := RX2) (T := TX2) (N := 6) hx hb hts in_X2 hown hK.1 hP 0 rfl rfl 3 (by decide) fl_19 (fun _ h9 => h9) rfl dX2_addPacked_33 ?_
            refine lv_iload_n hx hb dX2_addPacked_36 rfl (lv_at hl 0 rfl) ?_
            refine lv_i2c (v := nI (bO p k)) hx hb dX2_addPacked_37 (nv_i2c (by have := bO_lt p k; omega)) ?_
            refine nv_cast (i := (apI SA ty p k).2) (v := bO p k) hx hb hK.1 hP (hD _ _ _) hS 2 1 rfl rfl (by first | omega | (simp only [gEndAt]; omega)) (by decide) (by have := bO_lt p k; omega) dX2_addPacked_38 (fun H locs hP hS => ?_)
            have hP : va_P D vwCl [(x 0, .inr (4, [.ref (x 1), .int (nI o), .int (nI pl), .int (nI ((apI SA ty p k).2)), .ref (x 2), .int (nI vc)])), (x 1, .inl (cI, 5, .inl V)), (x 2, .inl (cC, 60, .inl (gN ((va_up (apI SA ty p k).1 ((apI SA ty p k).2) (bO p k))))))] H := hP
            refine lv_aload_n hx hb dX2_addPacked_39 rfl (lv_at hl 2 rfl) ?_
            refine lv_dup hx hb dX2_addPacked_40 rfl ?_
            refine va_get (D := D) (ci := 4) (v := .int (nI ((apI SA ty p k).2))) (C := RX2) (T := TX2) (N := 6) hx hb hts in_X2 hown hK.1 hP 0 rfl rfl 3 (by decide) fl_19 (fun _ h9 => h9) rfl dX2_addPacked_41 ?_
            refine lv_iconst (v := nI 1) hx hb dX2_addPacked_44 (by decide) ?_
            refine nv_iadd hx hb dX2_addPacked_45 ?_
            refine va_put (D := D) (ci := 4) (v := .int (nI ((apI SA ty p k).2 + 1))) (ty := .int) (C := RX2) (T := TX2) (N := 6) hx hb hts in_X2 tyX2 tyX2_ok nmX2 hown hK.1 hP (hD _ _ _) hS 0 rfl rfl 3 (by decide) fl_19 (fun _ h9 => h9) rfl (by decide +kernel) rfl rfl (Nat.le_of_ble_eq_true rfl) dX2_addPacked_46 (fun H locs hP _ hS => ?_)
            have hP : va_P D vwCl [(x 0, .inr (4, [.ref (x 1), .int (nI o), .int (nI pl), .int (nI ((apI SA ty p k).2 + 1)), .ref (x 2), .int (nI vc)])), (x 1, .inl (cI, 5, .inl V)), (x 2, .inl (cC, 60, .inl (gN ((va_up (apI SA ty p k).1 ((apI SA ty p k).2) (bO p k))))))] H := hP
            refine lv_iinc (v := nI 24 - nI (8 * (k + 1))) (lv' := [(2, .int (nI 24 - nI (8 * (k + 1)))), (3, .int (nI (bO p k))), (0, .ref (x 0)), (1, .int p)]) hx hb dX2_addPacked_49 hl (k := 1) rfl (sh_next k (by omega)) (by decide) rfl (fun ls hl => ?_)
            refine lv_goto (tgt := 3) hx hb dX2_addPacked_52 (by decide) ?_
            exact ih3  (k + 1) ((by omega)) (by omega) _ _ (by rw [apI_nz c3]; exact hP) hS ls (lv_sub hl [0, 2, 3] rfl)
  exact hloop1 _ 0 ((Nat.zero_le _)) (Nat.lt_succ_self _) _ _ hP hS ls (lv_sub hl [0, 1, 2] rfl)

set_option maxHeartbeats 1000000 in
set_option maxRecDepth 100000 in
theorem c_X2_takeSign (l : Launch) {D : va_G} {cI cC cD cR : ClassId} {sa : sA} {A : Nat → Prop} {x : Nat → Nat} {V : Nat → Int32} {SA : Nat → Nat} {o pl ty vc : Nat} (hD : ∀ V S fs, va_D A [(x 0, .inr (4, fs)), (x 1, .inl (cI, 5, .inl V)), (x 2, .inl (cC, 60, .inl (gN S)))]) (hty : ty ≤ 60) (hS7 : ∀ i, i < ty → SA i < 128) (hpl : pl ≤ 1000) (c : Nat) (hc : c < 128) : Met l yX2_takeSign wsX2_takeSign ({ frames := 0, cells := 0, slots := 0, locals := 0 }) (va_Pc [.ref (x 0), .int (nI c)] (tPre D [(cI, .int), (cC, .char), (cD, .object "DoorDialect$Door"), (cR, .object "DoorDialect$House")] nN sa A (fun H => va_P D vwCl [(x 0, .inr (4, [.ref (x 1), .int (nI o), .int (nI pl), .int (nI ty), .ref (x 2), .int (nI vc)])), (x 1, .inl (cI, 5, .inl V)), (x 2, .inl (cC, 60, .inl (gN SA)))] H))) (gQ (nI (bI (hrx SA ty pl = nI c))) ((fun H => va_P D vwCl (iw cI cC x (V) (SA) (o) (if hrx SA ty pl = nI c then pl + 1 else pl) (ty) (vc)) H)) A) 0 0 A := by
  refine nv_met (cc := cX2_takeSign) (maxL := 2) (ret := (some .boolean)) (by decide) rfl (Nat.le_of_ble_eq_true rfl) ?_
  intro p0 e0 s m0 args below meth c0 Q hq hargs hnA hpre ls hl
  obtain ⟨hx, hb, hr, hts, hown, hlocks, hml⟩ := hnA
  obtain ⟨hP, hT⟩ := hpre
  have hK := hT.1
  have hown : s.vm.findClass RX2 = some m0.cls := hown
  have hP : va_P D vwCl [(x 0, .inr (4, [.ref (x 1), .int (nI o), .int (nI pl), .int (nI ty), .ref (x 2), .int (nI vc)])), (x 1, .inl (cI, 5, .inl V)), (x 2, .inl (cC, 60, .inl (gN SA)))] s.heap := hP
  have hl : lv_has ls 2 [(0, .ref (x 0)), (1, .int (nI c))] := hl
  have hS : va_S A s.heap s.heap [] := va_S.rf
  have in_X2 : ∀ w ∈ wsX20, w ∈ wsX2_takeSign := by decide +kernel
  have fl_15 := hts (.fieldLink RX2 15 "DoorDialect$Input" "signs" "[C") (by decide +kernel)
  have fl_19 := hts (.fieldLink RX2 19 "DoorDialect$Input" "length" "I") (by decide +kernel)
  have fl_23 := hts (.fieldLink RX2 23 "DoorDialect$Input" "place" "I") (by decide +kernel)
  refine lv_aload_n hx hb dX2_takeSign_0 rfl (lv_at hl 0 rfl) ?_
  refine va_get (D := D) (ci := 4) (v := .int (nI pl)) (C := RX2) (T := TX2) (N := 6) hx hb hts in_X2 hown hK.1 hP 0 rfl rfl 2 (by decide) fl_23 (fun _ h9 => h9) rfl dX2_takeSign_1 ?_
  refine lv_aload_n hx hb dX2_takeSign_4 rfl (lv_at hl 0 rfl) ?_
  refine va_get (D := D) (ci := 4) (v := .int (nI ty)) (C := RX2) (T := TX2) (N := 6) hx hb hts in_X2 hown hK.1 hP 0 rfl rfl 3 (by decide) fl_19 (fun _ h9 => h9) rfl dX2_takeSign_5 ?_
  refine nv_icmp_ge (tgt := 24) hx hb dX2_takeSign_8 (by decide) (by omega) (by omega) (fun c1 => ?_) (fun c1 => ?_)
  · refine lv_iconst (v := nI 0) hx hb dX2_takeSign_24 (by decide) ?_
    exact nv_retG hq hx hb hr hlocks (nar_z (by omega)) (nv_in0 (fun q => absurd (hr_lt (F := SA) (by rw [q]; exact nI_m1 (by omega))) (Nat.not_lt.mpr c1))) hS (by rw [if_neg (fun q => absurd (hr_lt (F := SA) (by rw [q]; exact nI_m1 (by omega))) (Nat.not_lt.mpr c1))]; exact hP) dX2_takeSign_25
  · have hs9 := hS7 pl (by omega)
    refine lv_aload_n hx hb dX2_takeSign_11 rfl (lv_at hl 0 rfl) ?_
    refine va_get (D := D) (ci := 4) (v := .ref (x 2)) (C := RX2) (T := TX2) (N := 6) hx hb hts in_X2 hown hK.1 hP 0 rfl rfl 4 (by decide) fl_15 (fun _ h9 => h9) rfl dX2_takeSign_12 ?_
    refine lv_aload_n hx hb dX2_takeSign_15 rfl (lv_at hl 0 rfl) ?_
    refine va_get (D := D) (ci := 4) (v := .int (nI pl)) (C := RX2) (T := TX2) (N := 6) hx hb hts in_X2 hown hK.1 hP 0 rfl rfl 2 (by decide) fl_23 (fun _ h9 => h9) rfl dX2_takeSign_16 ?_
    refine nv_cald (i := pl) hx hb hK.1 hP 2 1 rfl rfl (by first | omega | (simp only [gEndAt]; omega)) (by decide) dX2_takeSign_19 ?_
    refine lv_iload_n hx hb dX2_takeSign_20 rfl (lv_at hl 1 rfl) ?_
    refine nv_icmp_eq (tgt := 26) hx hb dX2_takeSign_21 (by decide) (by omega) (by omega) (fun c2 => ?_) (fun c2 => ?_)
    · refine lv_aload_n hx hb dX2_takeSign_26 rfl (lv_at hl 0 rfl) ?_
      refine lv_dup hx hb dX2_takeSign_27 rfl ?_
      refine va_get (D := D) (ci := 4) (v := .int (nI pl)) (C := RX2) (T := TX2) (N := 6) hx hb hts in_X2 hown hK.1 hP 0 rfl rfl 2 (by decide) fl_23 (fun _ h9 => h9) rfl dX2_takeSign_28 ?_
      refine lv_iconst (v := nI 1) hx hb dX2_takeSign_31 (by decide) ?_
      refine nv_iadd hx hb dX2_takeSign_32 ?_
      refine va_put (D := D) (ci := 4) (v := .int (nI (pl + 1))) (ty := .int) (C := RX2) (T := TX2) (N := 6) hx hb hts in_X2 tyX2 tyX2_ok nmX2 hown hK.1 hP (hD _ _ _) hS 0 rfl rfl 2 (by decide) fl_23 (fun _ h9 => h9) rfl (by decide +kernel) rfl rfl (Nat.le_of_ble_eq_true rfl) dX2_takeSign_33 (fun H locs hP _ hS => ?_)
      have hP : va_P D vwCl [(x 0, .inr (4, [.ref (x 1), .int (nI o), .int (nI (pl + 1)), .int (nI ty), .ref (x 2), .int (nI vc)])), (x 1, .inl (cI, 5, .inl V)), (x 2, .inl (cC, 60, .inl (gN SA)))] H := hP
      refine lv_iconst (v := nI 1) hx hb dX2_takeSign_36 (by decide) ?_
      exact nv_retG hq hx hb hr hlocks (nar_z (by omega)) (nv_in1 ((hr_in (F := SA) c1).symm.trans (congrArg nI c2))) hS (by rw [if_pos ((hr_in (F := SA) c1).symm.trans (congrArg nI c2))]; exact hP) dX2_takeSign_37
    · refine lv_iconst (v := nI 0) hx hb dX2_takeSign_24 (by decide) ?_
      exact nv_retG hq hx hb hr hlocks (nar_z (by omega)) (nv_in0 (fun q => c2 ((nI_eq (by omega) (by omega)).mp ((hr_in (F := SA) c1).trans q)))) hS (by rw [if_neg (fun q => c2 ((nI_eq (by omega) (by omega)).mp ((hr_in (F := SA) c1).trans q)))]; exact hP) dX2_takeSign_25

set_option maxHeartbeats 1000000 in
set_option maxRecDepth 100000 in
theorem c_X2_numberIn (l : Launch) {D : va_G} {cI cC cD cR : ClassId} {sa : sA} {A : Nat → Prop} (f e c : Nat) (hf : f < 2 ^ 31) (he : e < 2 ^ 31) (hc : c < 2 ^ 31) : Met l yX2_numberIn wsX2_numberIn ({ frames := 0, cells := 0, slots := 0, locals := 0 }) (va_Pc [.int (nI f), .int (nI e), .int (nI c)] (tPre D [(cI, .int), (cC, .char), (cD, .object "DoorDialect$Door"), (cR, .object "DoorDialect$House")] nN sa A (fun _ => True))) (sQ (nmI f e c)) 0 0 (fun _ => False) := by
  refine nv_met (cc := cX2_numberIn) (maxL := 3) (ret := (some .int)) (by decide) rfl (Nat.le_of_ble_eq_true rfl) ?_
  intro p0 e0 s m0 args below meth c0 Q hq hargs hnA hpre ls hl
  obtain ⟨hx, hb, hr, hts, hown, hlocks, hml⟩ := hnA
  obtain ⟨hP, hT⟩ := hpre
  have hK := hT.1
  have hown : s.vm.findClass RX2 = some m0.cls := hown
  have hl : lv_has ls 3 [(0, .int (nI f)), (1, .int (nI e)), (2, .int (nI c))] := hl
  have hS : va_S A s.heap s.heap [] := va_S.rf
  refine lv_iload_n hx hb dX2_numberIn_0 rfl (lv_at hl 2 rfl) ?_
  refine lv_iload_n hx hb dX2_numberIn_1 rfl (lv_at hl 0 rfl) ?_
  refine nv_icmp_lt (tgt := 16) hx hb dX2_numberIn_2 (by decide) (by omega) (by omega) (fun c1 => ?_) (fun c1 => ?_)
  · refine lv_bipush (v := (-2)) hx hb dX2_numberIn_16 (by decide) ?_
    exact nv_retS hq hx hb hr hlocks (nar_i _) (by unfold nmI; rw [if_neg (by omega)]) dX2_numberIn_18
  · refine lv_iload_n hx hb dX2_numberIn_5 rfl (lv_at hl 2 rfl) ?_
    refine lv_iload_n hx hb dX2_numberIn_6 rfl (lv_at hl 1 rfl) ?_
    refine nv_icmp_gt (tgt := 16) hx hb dX2_numberIn_7 (by decide) (by omega) (by omega) (fun c2 => ?_) (fun c2 => ?_)
    · refine lv_bipush (v := (-2)) hx hb dX2_numberIn_16 (by decide) ?_
      exact nv_retS hq hx hb hr hlocks (nar_i _) (by unfold nmI; rw [if_neg (by omega)]) dX2_numberIn_18
    · refine lv_iload_n hx hb dX2_numberIn_10 rfl (lv_at hl 2 rfl) ?_
      refine lv_iload_n hx hb dX2_numberIn_11 rfl (lv_at hl 0 rfl) ?_
      refine nv_isub hx hb dX2_numberIn_12 (by omega) ?_
      refine lv_goto (tgt := 18) hx hb dX2_numberIn_13 (by decide) ?_
      exact nv_retS hq hx hb hr hlocks (nar_i _) (by unfold nmI; rw [if_pos ⟨by omega, by omega⟩]) dX2_numberIn_18

set_option maxHeartbeats 1000000 in
set_option maxRecDepth 100000 in
theorem c_X2_letterIn (l : Launch) {D : va_G} {cI cC cD cR : ClassId} {sa : sA} {A : Nat → Prop} (i : Nat) (hi : i < 13) (c : Nat) (hc : c < 128) : Met l yX2_letterIn wsX2_letterIn ({ frames := 4, cells := 0, slots := 0, locals := 91 }) (va_Pc [.ref (sa.1 i), .int (nI c)] (tPre D [(cI, .int), (cC, .char), (cD, .object "DoorDialect$Door"), (cR, .object "DoorDialect$House")] nN sa A (fun _ => True))) (sQ (lIn i c)) 0 0 (fun _ => False) := by
  refine nv_met (cc := cX2_letterIn) (maxL := 3) (ret := (some .int)) (by decide) rfl (Nat.le_of_ble_eq_true rfl) ?_
  intro p0 e0 s m0 args below meth c0 Q hq hargs hnA hpre ls hl
  obtain ⟨hx, hb, hr, hts, hown, hlocks, hml⟩ := hnA
  obtain ⟨hP, hT⟩ := hpre
  have hK := hT.1
  have hown : s.vm.findClass RX2 = some m0.cls := hown
  have hl : lv_has ls 3 [(0, .ref (sa.1 i)), (1, .int (nI c))] := hl
  have hS : va_S A s.heap s.heap [] := va_S.rf
  have hsl := sLen_lt i hi
  refine lv_aload_n hx hb dX2_letterIn_0 rfl (lv_at hl 0 rfl) ?_
  refine lv_iload_n hx hb dX2_letterIn_1 rfl (lv_at hl 1 rfl) ?_
  refine nv_kS (va_runV (As := [.int (nI c)]) (rest := []) ⟨hx, hb, hml, hown, hts⟩ (c_J0_indexOf_0f7a4 l i hi c (by omega)) (cwV 1 hts gX2_letterIn_J0_indexOf_0f7a4 rfl rfl rfl (by decide +kernel) ⟨Nat.le_of_ble_eq_true rfl, Nat.le_of_ble_eq_true rfl⟩) (nt_pV hT hS trivial (vk_recv hT.2.1 hi hS)) rfl rfl hl.1 rfl (lv_room (Nat.le_of_ble_eq_true rfl)) dX2_letterIn_2 ⟨Nat.zero_le _, Nat.zero_le _⟩) ?_
  refine lv_istore_n (lv' := [(2, .int (sIx i c)), (0, .ref (sa.1 i)), (1, .int (nI c))]) hx hb dX2_letterIn_5 rfl hl (by decide) rfl (fun ls hl => ?_)
  refine lv_iload_n hx hb dX2_letterIn_6 rfl (lv_at hl 0 rfl) ?_
  refine lv_if_ge (tgt := 15) hx hb dX2_letterIn_7 (by decide) (fun c1 => ?_) (fun c1 => ?_)
  · refine lv_iload_n hx hb dX2_letterIn_15 rfl (lv_at hl 0 rfl) ?_
    exact nv_retS hq hx hb hr hlocks (nar_i _) (by unfold lIn; rw [if_neg (fun q => by rw [q] at c1; exact absurd c1 (by decide))]) dX2_letterIn_16
  · refine lv_bipush (v := (-2)) hx hb dX2_letterIn_10 (by decide) ?_
    refine lv_goto (tgt := 16) hx hb dX2_letterIn_12 (by decide) ?_
    exact nv_retS hq hx hb hr hlocks (nar_i _) (by unfold lIn; rw [if_pos ((sIx_or i c).elim id (fun ⟨k, hk, e9⟩ => absurd (by rw [e9]; exact nI_nn (by omega)) c1))]) dX2_letterIn_16

set_option maxHeartbeats 1000000 in
set_option maxRecDepth 100000 in
theorem c_X2_keepValue (l : Launch) {D : va_G} {cI cC cD cR : ClassId} {sa : sA} {A : Nat → Prop} {x : Nat → Nat} {V : Nat → Int32} {SA : Nat → Nat} {o pl ty vc : Nat} (hD : ∀ V S fs, va_D A [(x 0, .inr (4, fs)), (x 1, .inl (cI, 5, .inl V)), (x 2, .inl (cC, 60, .inl (gN S)))]) (v : Int32) (hvc : vc < 5) : Met l yX2_keepValue wsX2_keepValue ({ frames := 0, cells := 0, slots := 0, locals := 0 }) (va_Pc [.ref (x 0), .int v] (tPre D [(cI, .int), (cC, .char), (cD, .object "DoorDialect$Door"), (cR, .object "DoorDialect$House")] nN sa A (fun H => va_P D vwCl [(x 0, .inr (4, [.ref (x 1), .int (nI o), .int (nI pl), .int (nI ty), .ref (x 2), .int (nI vc)])), (x 1, .inl (cI, 5, .inl V)), (x 2, .inl (cC, 60, .inl (gN SA)))] H))) (gQ (nI (bI (¬ v = -2))) ((fun H => va_P D vwCl (iw cI cC x (if v = -2 then V else upd V vc v) (SA) (o) (pl) (ty) (if v = -2 then vc else vc + 1)) H)) A) 0 0 A := by
  refine nv_met (cc := cX2_keepValue) (maxL := 2) (ret := (some .boolean)) (by decide) rfl (Nat.le_of_ble_eq_true rfl) ?_
  intro p0 e0 s m0 args below meth c0 Q hq hargs hnA hpre ls hl
  obtain ⟨hx, hb, hr, hts, hown, hlocks, hml⟩ := hnA
  obtain ⟨hP, hT⟩ := hpre
  have hK := hT.1
  have hown : s.vm.findClass RX2 = some m0.cls := hown
  have hP : va_P D vwCl [(x 0, .inr (4, [.ref (x 1), .int (nI o), .int (nI pl), .int (nI ty), .ref (x 2), .int (nI vc)])), (x 1, .inl (cI, 5, .inl V)), (x 2, .inl (cC, 60, .inl (gN SA)))] s.heap := hP
  have hl : lv_has ls 2 [(0, .ref (x 0)), (1, .int v)] := hl
  have hS : va_S A s.heap s.heap [] := va_S.rf
  have in_X2 : ∀ w ∈ wsX20, w ∈ wsX2_keepValue := by decide +kernel
  have fl_9 := hts (.fieldLink RX2 9 "DoorDialect$Input" "values" "[I") (by decide +kernel)
  have fl_59 := hts (.fieldLink RX2 59 "DoorDialect$Input" "valueCount" "I") (by decide +kernel)
  refine lv_iload_n hx hb dX2_keepValue_0 rfl (lv_at hl 1 rfl) ?_
  refine lv_bipush (v := (-2)) hx hb dX2_keepValue_1 (by decide) ?_
  refine lv_icmp_eq (tgt := 18) hx hb dX2_keepValue_3 (by decide) (fun c1 => ?_) (fun c1 => ?_)
  · refine lv_iconst (v := nI 0) hx hb dX2_keepValue_18 (by decide) ?_
    exact nv_retG hq hx hb hr hlocks (nar_z (by omega)) (nv_in0 (fun q => q c1)) hS (by rw [if_pos c1, if_pos c1]; exact hP) dX2_keepValue_19
  · refine lv_aload_n hx hb dX2_keepValue_6 rfl (lv_at hl 0 rfl) ?_
    refine va_get (D := D) (ci := 4) (v := .int (nI vc)) (C := RX2) (T := TX2) (N := 6) hx hb hts in_X2 hown hK.1 hP 0 rfl rfl 5 (by decide) fl_59 (fun _ h9 => h9) rfl dX2_keepValue_7 ?_
    refine lv_aload_n hx hb dX2_keepValue_10 rfl (lv_at hl 0 rfl) ?_
    refine va_get (D := D) (ci := 4) (v := .ref (x 1)) (C := RX2) (T := TX2) (N := 6) hx hb hts in_X2 hown hK.1 hP 0 rfl rfl 0 (by decide) fl_9 (fun _ h9 => h9) rfl dX2_keepValue_11 ?_
    refine va_alen (v := nI 5) hx hb hK.1 hP 1 0 (ty := .int) rfl rfl rfl dX2_keepValue_14 ?_
    refine nv_icmp_lt (tgt := 20) hx hb dX2_keepValue_15 (by decide) (by omega) (by omega) (fun c2 => ?_) (fun c2 => ?_)
    · refine lv_aload_n hx hb dX2_keepValue_20 rfl (lv_at hl 0 rfl) ?_
      refine va_get (D := D) (ci := 4) (v := .ref (x 1)) (C := RX2) (T := TX2) (N := 6) hx hb hts in_X2 hown hK.1 hP 0 rfl rfl 0 (by decide) fl_9 (fun _ h9 => h9) rfl dX2_keepValue_21 ?_
      refine lv_aload_n hx hb dX2_keepValue_24 rfl (lv_at hl 0 rfl) ?_
      refine va_get (D := D) (ci := 4) (v := .int (nI vc)) (C := RX2) (T := TX2) (N := 6) hx hb hts in_X2 hown hK.1 hP 0 rfl rfl 5 (by decide) fl_59 (fun _ h9 => h9) rfl dX2_keepValue_25 ?_
      refine lv_iload_n hx hb dX2_keepValue_28 rfl (lv_at hl 1 rfl) ?_
      refine nv_iast (i := vc) hx hb hK.1 hP (hD _ _ _) hS 1 0 rfl rfl (by first | omega | (simp only [gEndAt]; omega)) (by decide) dX2_keepValue_29 (fun H locs hP hS => ?_)
      have hP : va_P D vwCl [(x 0, .inr (4, [.ref (x 1), .int (nI o), .int (nI pl), .int (nI ty), .ref (x 2), .int (nI vc)])), (x 1, .inl (cI, 5, .inl ((upd V (vc) (v))))), (x 2, .inl (cC, 60, .inl (gN SA)))] H := hP
      refine lv_aload_n hx hb dX2_keepValue_30 rfl (lv_at hl 0 rfl) ?_
      refine lv_dup hx hb dX2_keepValue_31 rfl ?_
      refine va_get (D := D) (ci := 4) (v := .int (nI vc)) (C := RX2) (T := TX2) (N := 6) hx hb hts in_X2 hown hK.1 hP 0 rfl rfl 5 (by decide) fl_59 (fun _ h9 => h9) rfl dX2_keepValue_32 ?_
      refine lv_iconst (v := nI 1) hx hb dX2_keepValue_35 (by decide) ?_
      refine nv_iadd hx hb dX2_keepValue_36 ?_
      refine va_put (D := D) (ci := 4) (v := .int (nI (vc + 1))) (ty := .int) (C := RX2) (T := TX2) (N := 6) hx hb hts in_X2 tyX2 tyX2_ok nmX2 hown hK.1 hP (hD _ _ _) hS 0 rfl rfl 5 (by decide) fl_59 (fun _ h9 => h9) rfl (by decide +kernel) rfl rfl (Nat.le_of_ble_eq_true rfl) dX2_keepValue_37 (fun H locs hP _ hS => ?_)
      have hP : va_P D vwCl [(x 0, .inr (4, [.ref (x 1), .int (nI o), .int (nI pl), .int (nI ty), .ref (x 2), .int (nI (vc + 1))])), (x 1, .inl (cI, 5, .inl ((upd V (vc) (v))))), (x 2, .inl (cC, 60, .inl (gN SA)))] H := hP
      refine lv_iconst (v := nI 1) hx hb dX2_keepValue_40 (by decide) ?_
      exact nv_retG hq hx hb hr hlocks (nar_z (by omega)) (nv_in1 c1) hS (by rw [if_neg c1, if_neg c1]; exact hP) dX2_keepValue_41
    · exfalso; omega

set_option maxHeartbeats 1000000 in
set_option maxRecDepth 100000 in
theorem c_X2_takes (l : Launch) {D : va_G} {cI cC cD cR : ClassId} {sa : sA} {A : Nat → Prop} {x : Nat → Nat} {V : Nat → Int32} {SA : Nat → Nat} {o pl ty vc : Nat} (hD : ∀ V S fs, va_D A [(x 0, .inr (4, fs)), (x 1, .inl (cI, 5, .inl V)), (x 2, .inl (cC, 60, .inl (gN S)))]) (w c : Nat) (hw : w < 128) (hc : c < 128) (hvc : 200 ≤ pw w → vc < 5) : Met l yX2_takes wsX2_takes ({ frames := 5, cells := 0, slots := 0, locals := 113 }) (va_Pc [.ref (x 0), .int (nI w), .int (nI c)] (tPre D [(cI, .int), (cC, .char), (cD, .object "DoorDialect$Door"), (cR, .object "DoorDialect$House")] nN sa A (fun H => va_P D vwCl [(x 0, .inr (4, [.ref (x 1), .int (nI o), .int (nI pl), .int (nI ty), .ref (x 2), .int (nI vc)])), (x 1, .inl (cI, 5, .inl V)), (x 2, .inl (cC, 60, .inl (gN SA)))] H))) (gQ (nI (bI (okI (pw w) (nI c)))) ((fun H => va_P D vwCl (iw cI cC x (if okI (pw w) (nI c) ∧ 200 ≤ pw w then upd V vc (vI (pw w) (nI c)) else V) (SA) (o) (pl) (ty) (if okI (pw w) (nI c) ∧ 200 ≤ pw w then vc + 1 else vc)) H)) A) 0 0 A := by
  refine nv_met (cc := cX2_takes) (maxL := 3) (ret := (some .boolean)) (by decide) rfl (Nat.le_of_ble_eq_true rfl) ?_
  intro p0 e0 s m0 args below meth c0 Q hq hargs hnA hpre ls hl
  obtain ⟨hx, hb, hr, hts, hown, hlocks, hml⟩ := hnA
  obtain ⟨hP, hT⟩ := hpre
  have hK := hT.1
  have hown : s.vm.findClass RX2 = some m0.cls := hown
  have hP : va_P D vwCl [(x 0, .inr (4, [.ref (x 1), .int (nI o), .int (nI pl), .int (nI ty), .ref (x 2), .int (nI vc)])), (x 1, .inl (cI, 5, .inl V)), (x 2, .inl (cC, 60, .inl (gN SA)))] s.heap := hP
  have hl : lv_has ls 3 [(0, .ref (x 0)), (1, .int (nI w)), (2, .int (nI c))] := hl
  have hS : va_S A s.heap s.heap [] := va_S.rf
  refine lv_iload_n hx hb dX2_takes_0 rfl (lv_at hl 1 rfl) ?_
  by_cases c1 : nI w = nI 35
  · refine lv_lookup (off := 59) (tgt := 60) hx hb dX2_takes_1 (by decide) (by rw [c1]; rfl) (by decide) ?_
    have hw9 : w = 35 := (nI_eq (by omega) (by omega)).mp c1
    subst hw9
    have hv5 : vc < 5 := hvc (by decide)
    refine lv_aload_n hx hb dX2_takes_60 rfl (lv_at hl 0 rfl) ?_
    refine lv_bipush (v := nI 48) hx hb dX2_takes_61 (by decide) ?_
    refine lv_bipush (v := nI 57) hx hb dX2_takes_63 (by decide) ?_
    refine lv_iload_n hx hb dX2_takes_65 rfl (lv_at hl 2 rfl) ?_
    refine nv_kS (va_runS (As := [.int (nI 48), .int (nI 57), .int (nI c)]) (rest := [.ref (x 0)]) ⟨hx, hb, hml, hown, hts⟩ (c_X2_numberIn l 48 57 c (by omega) (by omega) (by omega)) (va_cwS 3 hts gX2_takes_X2_numberIn rfl rfl rfl (by decide +kernel) ⟨Nat.le_of_ble_eq_true rfl, Nat.le_of_ble_eq_true rfl⟩) (nt_pS hT hS trivial) rfl rfl hl.1 rfl (lv_room (Nat.le_of_ble_eq_true rfl)) dX2_takes_66 ⟨Nat.zero_le _, Nat.zero_le _⟩) ?_
    refine iv9_to (vX 200 c) (rfl) ?_
    refine nv_kG (va_runV (As := [.int (vX 200 c)]) (rest := []) ⟨hx, hb, hml, hown, hts⟩ (c_X2_keepValue l hD (vX 200 c) hv5) (cwV 1 hts gX2_takes_X2_keepValue rfl rfl rfl (by decide +kernel) ⟨Nat.le_of_ble_eq_true rfl, Nat.le_of_ble_eq_true rfl⟩) (nt_pV hT hS hP (va_recv hK.1 hP (ci := 4) (q0 := 0) rfl rfl)) rfl rfl hl.1 rfl (lv_room (Nat.le_of_ble_eq_true rfl)) dX2_takes_69 ⟨Nat.zero_le _, Nat.zero_le _⟩) hS (fun _ h9 => h9) (fun H locs hP1 hK1 hS => ?_)
    have hP : va_P D vwCl [(x 0, .inr (4, [.ref (x 1), .int (nI o), .int (nI pl), .int (nI ty), .ref (x 2), .int (nI ((if vX 200 c = -2 then vc else vc + 1)))])), (x 1, .inl (cI, 5, .inl ((if vX 200 c = -2 then V else upd V vc (vX 200 c))))), (x 2, .inl (cC, 60, .inl (gN SA)))] H := hP1
    exact nv_retG hq hx hb hr hlocks (nar_zb _) (congrArg nI (bI_congr (tk_b (w := 200) (by decide) (by decide) hc))) hS (tk_fin (w := 200) (by decide) (by decide) hc hP) dX2_takes_72
  ·
    skip
    by_cases c2 : nI w = nI 67
    · refine lv_lookup (off := 117) (tgt := 118) hx hb dX2_takes_1 (by decide) (by rw [c2]; rfl) (by decide) ?_
      have hw9 : w = 67 := (nI_eq (by omega) (by omega)).mp c2
      subst hw9
      have hv5 : vc < 5 := hvc (by decide)
      refine lv_aload_n hx hb dX2_takes_118 rfl (lv_at hl 0 rfl) ?_
      refine va_ldcS hx hb hown (hT.2.2.1 (RX2, 104, "OSAL", 2) (by decide +kernel)) dX2_takes_119 ?_
      refine lv_iload_n hx hb dX2_takes_121 rfl (lv_at hl 2 rfl) ?_
      refine nv_kS (va_runS (As := [.ref (sa.1 2), .int (nI c)]) (rest := [.ref (x 0)]) ⟨hx, hb, hml, hown, hts⟩ (c_X2_letterIn l 2 (by decide) c (by omega)) (va_cwS 2 hts gX2_takes_X2_letterIn rfl rfl rfl (by decide +kernel) ⟨Nat.le_of_ble_eq_true rfl, Nat.le_of_ble_eq_true rfl⟩) (nt_pS hT hS trivial) rfl rfl hl.1 rfl (lv_room (Nat.le_of_ble_eq_true rfl)) dX2_takes_122 ⟨Nat.zero_le _, Nat.zero_le _⟩) ?_
      refine iv9_to (vX 204 c) (rfl) ?_
      refine nv_kG (va_runV (As := [.int (vX 204 c)]) (rest := []) ⟨hx, hb, hml, hown, hts⟩ (c_X2_keepValue l hD (vX 204 c) hv5) (cwV 1 hts gX2_takes_X2_keepValue rfl rfl rfl (by decide +kernel) ⟨Nat.le_of_ble_eq_true rfl, Nat.le_of_ble_eq_true rfl⟩) (nt_pV hT hS hP (va_recv hK.1 hP (ci := 4) (q0 := 0) rfl rfl)) rfl rfl hl.1 rfl (lv_room (Nat.le_of_ble_eq_true rfl)) dX2_takes_125 ⟨Nat.zero_le _, Nat.zero_le _⟩) hS (fun _ h9 => h9) (fun H locs hP1 hK1 hS => ?_)
      have hP : va_P D vwCl [(x 0, .inr (4, [.ref (x 1), .int (nI o), .int (nI pl), .int (nI ty), .ref (x 2), .int (nI ((if vX 204 c = -2 then vc else vc + 1)))])), (x 1, .inl (cI, 5, .inl ((if vX 204 c = -2 then V else upd V vc (vX 204 c))))), (x 2, .inl (cC, 60, .inl (gN SA)))] H := hP1
      exact nv_retG hq hx hb hr hlocks (nar_zb _) (congrArg nI (bI_congr (tk_b (w := 204) (by decide) (by decide) hc))) hS (tk_fin (w := 204) (by decide) (by decide) hc hP) dX2_takes_128
    ·
      skip
      by_cases c3 : nI w = nI 69
      · refine lv_lookup (off := 128) (tgt := 129) hx hb dX2_takes_1 (by decide) (by rw [c3]; rfl) (by decide) ?_
        have hw9 : w = 69 := (nI_eq (by omega) (by omega)).mp c3
        subst hw9
        have hv5 : vc < 5 := hvc (by decide)
        refine lv_aload_n hx hb dX2_takes_129 rfl (lv_at hl 0 rfl) ?_
        refine lv_bipush (v := nI 97) hx hb dX2_takes_130 (by decide) ?_
        refine lv_bipush (v := nI 122) hx hb dX2_takes_132 (by decide) ?_
        refine lv_iload_n hx hb dX2_takes_134 rfl (lv_at hl 2 rfl) ?_
        refine nv_kS (va_runS (As := [.int (nI 97), .int (nI 122), .int (nI c)]) (rest := [.ref (x 0)]) ⟨hx, hb, hml, hown, hts⟩ (c_X2_numberIn l 97 122 c (by omega) (by omega) (by omega)) (va_cwS 3 hts gX2_takes_X2_numberIn rfl rfl rfl (by decide +kernel) ⟨Nat.le_of_ble_eq_true rfl, Nat.le_of_ble_eq_true rfl⟩) (nt_pS hT hS trivial) rfl rfl hl.1 rfl (lv_room (Nat.le_of_ble_eq_true rfl)) dX2_takes_135 ⟨Nat.zero_le _, Nat.zero_le _⟩) ?_
        refine iv9_to (vX 205 c) (rfl) ?_
        refine nv_kG (va_runV (As := [.int (vX 205 c)]) (rest := []) ⟨hx, hb, hml, hown, hts⟩ (c_X2_keepValue l hD (vX 205 c) hv5) (cwV 1 hts gX2_takes_X2_keepValue rfl rfl rfl (by decide +kernel) ⟨Nat.le_of_ble_eq_true rfl, Nat.le_of_ble_eq_true rfl⟩) (nt_pV hT hS hP (va_recv hK.1 hP (ci := 4) (q0 := 0) rfl rfl)) rfl rfl hl.1 rfl (lv_room (Nat.le_of_ble_eq_true rfl)) dX2_takes_138 ⟨Nat.zero_le _, Nat.zero_le _⟩) hS (fun _ h9 => h9) (fun H locs hP1 hK1 hS => ?_)
        have hP : va_P D vwCl [(x 0, .inr (4, [.ref (x 1), .int (nI o), .int (nI pl), .int (nI ty), .ref (x 2), .int (nI ((if vX 205 c = -2 then vc else vc + 1)))])), (x 1, .inl (cI, 5, .inl ((if vX 205 c = -2 then V else upd V vc (vX 205 c))))), (x 2, .inl (cC, 60, .inl (gN SA)))] H := hP1
        exact nv_retG hq hx hb hr hlocks (nar_zb _) (congrArg nI (bI_congr (tk_b (w := 205) (by decide) (by decide) hc))) hS (tk_fin (w := 205) (by decide) (by decide) hc hP) dX2_takes_141
      ·
        skip
        by_cases c4 : nI w = nI 71
        · refine lv_lookup (off := 95) (tgt := 96) hx hb dX2_takes_1 (by decide) (by rw [c4]; rfl) (by decide) ?_
          have hw9 : w = 71 := (nI_eq (by omega) (by omega)).mp c4
          subst hw9
          have hv5 : vc < 5 := hvc (by decide)
          refine lv_aload_n hx hb dX2_takes_96 rfl (lv_at hl 0 rfl) ?_
          refine va_ldcS hx hb hown (hT.2.2.1 (RX2, 96, "oig", 0) (by decide +kernel)) dX2_takes_97 ?_
          refine lv_iload_n hx hb dX2_takes_99 rfl (lv_at hl 2 rfl) ?_
          refine nv_kS (va_runS (As := [.ref (sa.1 0), .int (nI c)]) (rest := [.ref (x 0)]) ⟨hx, hb, hml, hown, hts⟩ (c_X2_letterIn l 0 (by decide) c (by omega)) (va_cwS 2 hts gX2_takes_X2_letterIn rfl rfl rfl (by decide +kernel) ⟨Nat.le_of_ble_eq_true rfl, Nat.le_of_ble_eq_true rfl⟩) (nt_pS hT hS trivial) rfl rfl hl.1 rfl (lv_room (Nat.le_of_ble_eq_true rfl)) dX2_takes_100 ⟨Nat.zero_le _, Nat.zero_le _⟩) ?_
          refine iv9_to (vX 202 c) (rfl) ?_
          refine nv_kG (va_runV (As := [.int (vX 202 c)]) (rest := []) ⟨hx, hb, hml, hown, hts⟩ (c_X2_keepValue l hD (vX 202 c) hv5) (cwV 1 hts gX2_takes_X2_keepValue rfl rfl rfl (by decide +kernel) ⟨Nat.le_of_ble_eq_true rfl, Nat.le_of_ble_eq_true rfl⟩) (nt_pV hT hS hP (va_recv hK.1 hP (ci := 4) (q0 := 0) rfl rfl)) rfl rfl hl.1 rfl (lv_room (Nat.le_of_ble_eq_true rfl)) dX2_takes_103 ⟨Nat.zero_le _, Nat.zero_le _⟩) hS (fun _ h9 => h9) (fun H locs hP1 hK1 hS => ?_)
          have hP : va_P D vwCl [(x 0, .inr (4, [.ref (x 1), .int (nI o), .int (nI pl), .int (nI ty), .ref (x 2), .int (nI ((if vX 202 c = -2 then vc else vc + 1)))])), (x 1, .inl (cI, 5, .inl ((if vX 202 c = -2 then V else upd V vc (vX 202 c))))), (x 2, .inl (cC, 60, .inl (gN SA)))] H := hP1
          exact nv_retG hq hx hb hr hlocks (nar_zb _) (congrArg nI (bI_congr (tk_b (w := 202) (by decide) (by decide) hc))) hS (tk_fin (w := 202) (by decide) (by decide) hc hP) dX2_takes_106
        ·
          skip
          by_cases c5 : nI w = nI 78
          · refine lv_lookup (off := 106) (tgt := 107) hx hb dX2_takes_1 (by decide) (by rw [c5]; rfl) (by decide) ?_
            have hw9 : w = 78 := (nI_eq (by omega) (by omega)).mp c5
            subst hw9
            have hv5 : vc < 5 := hvc (by decide)
            refine lv_aload_n hx hb dX2_takes_107 rfl (lv_at hl 0 rfl) ?_
            refine va_ldcS hx hb hown (hT.2.2.1 (RX2, 102, "sd", 1) (by decide +kernel)) dX2_takes_108 ?_
            refine lv_iload_n hx hb dX2_takes_110 rfl (lv_at hl 2 rfl) ?_
            refine nv_kS (va_runS (As := [.ref (sa.1 1), .int (nI c)]) (rest := [.ref (x 0)]) ⟨hx, hb, hml, hown, hts⟩ (c_X2_letterIn l 1 (by decide) c (by omega)) (va_cwS 2 hts gX2_takes_X2_letterIn rfl rfl rfl (by decide +kernel) ⟨Nat.le_of_ble_eq_true rfl, Nat.le_of_ble_eq_true rfl⟩) (nt_pS hT hS trivial) rfl rfl hl.1 rfl (lv_room (Nat.le_of_ble_eq_true rfl)) dX2_takes_111 ⟨Nat.zero_le _, Nat.zero_le _⟩) ?_
            refine iv9_to (vX 203 c) (rfl) ?_
            refine nv_kG (va_runV (As := [.int (vX 203 c)]) (rest := []) ⟨hx, hb, hml, hown, hts⟩ (c_X2_keepValue l hD (vX 203 c) hv5) (cwV 1 hts gX2_takes_X2_keepValue rfl rfl rfl (by decide +kernel) ⟨Nat.le_of_ble_eq_true rfl, Nat.le_of_ble_eq_true rfl⟩) (nt_pV hT hS hP (va_recv hK.1 hP (ci := 4) (q0 := 0) rfl rfl)) rfl rfl hl.1 rfl (lv_room (Nat.le_of_ble_eq_true rfl)) dX2_takes_114 ⟨Nat.zero_le _, Nat.zero_le _⟩) hS (fun _ h9 => h9) (fun H locs hP1 hK1 hS => ?_)
            have hP : va_P D vwCl [(x 0, .inr (4, [.ref (x 1), .int (nI o), .int (nI pl), .int (nI ty), .ref (x 2), .int (nI ((if vX 203 c = -2 then vc else vc + 1)))])), (x 1, .inl (cI, 5, .inl ((if vX 203 c = -2 then V else upd V vc (vX 203 c))))), (x 2, .inl (cC, 60, .inl (gN SA)))] H := hP1
            exact nv_retG hq hx hb hr hlocks (nar_zb _) (congrArg nI (bI_congr (tk_b (w := 203) (by decide) (by decide) hc))) hS (tk_fin (w := 203) (by decide) (by decide) hc hP) dX2_takes_117
          ·
            skip
            by_cases c6 : nI w = nI 84
            · refine lv_lookup (off := 72) (tgt := 73) hx hb dX2_takes_1 (by decide) (by rw [c6]; rfl) (by decide) ?_
              have hw9 : w = 84 := (nI_eq (by omega) (by omega)).mp c6
              subst hw9
              have hv5 : vc < 5 := hvc (by decide)
              refine lv_aload_n hx hb dX2_takes_73 rfl (lv_at hl 0 rfl) ?_
              refine lv_iload_n hx hb dX2_takes_74 rfl (lv_at hl 2 rfl) ?_
              refine lv_bipush (v := nI 45) hx hb dX2_takes_75 (by decide) ?_
              refine nv_icmp_ne (tgt := 84) hx hb dX2_takes_77 (by decide) (by omega) (by omega) (fun c7 => ?_) (fun c7 => ?_)
              · refine lv_bipush (v := nI 48) hx hb dX2_takes_84 (by decide) ?_
                refine lv_bipush (v := nI 57) hx hb dX2_takes_86 (by decide) ?_
                refine lv_iload_n hx hb dX2_takes_88 rfl (lv_at hl 2 rfl) ?_
                refine nv_kS (va_runS (As := [.int (nI 48), .int (nI 57), .int (nI c)]) (rest := [.ref (x 0)]) ⟨hx, hb, hml, hown, hts⟩ (c_X2_numberIn l 48 57 c (by omega) (by omega) (by omega)) (va_cwS 3 hts gX2_takes_X2_numberIn rfl rfl rfl (by decide +kernel) ⟨Nat.le_of_ble_eq_true rfl, Nat.le_of_ble_eq_true rfl⟩) (nt_pS hT hS trivial) rfl rfl hl.1 rfl (lv_room (Nat.le_of_ble_eq_true rfl)) dX2_takes_89 ⟨Nat.zero_le _, Nat.zero_le _⟩) ?_
                refine iv9_to (vX 201 c) (by show _ = if c = 45 then (-1 : Int32) else nmI 48 57 c; rw [if_neg c7]) ?_
                refine nv_kG (va_runV (As := [.int (vX 201 c)]) (rest := []) ⟨hx, hb, hml, hown, hts⟩ (c_X2_keepValue l hD (vX 201 c) hv5) (cwV 1 hts gX2_takes_X2_keepValue rfl rfl rfl (by decide +kernel) ⟨Nat.le_of_ble_eq_true rfl, Nat.le_of_ble_eq_true rfl⟩) (nt_pV hT hS hP (va_recv hK.1 hP (ci := 4) (q0 := 0) rfl rfl)) rfl rfl hl.1 rfl (lv_room (Nat.le_of_ble_eq_true rfl)) dX2_takes_92 ⟨Nat.zero_le _, Nat.zero_le _⟩) hS (fun _ h9 => h9) (fun H locs hP1 hK1 hS => ?_)
                have hP : va_P D vwCl [(x 0, .inr (4, [.ref (x 1), .int (nI o), .int (nI pl), .int (nI ty), .ref (x 2), .int (nI ((if vX 201 c = -2 then vc else vc + 1)))])), (x 1, .inl (cI, 5, .inl ((if vX 201 c = -2 then V else upd V vc (vX 201 c))))), (x 2, .inl (cC, 60, .inl (gN SA)))] H := hP1
                exact nv_retG hq hx hb hr hlocks (nar_zb _) (congrArg nI (bI_congr (tk_b (w := 201) (by decide) (by decide) hc))) hS (tk_fin (w := 201) (by decide) (by decide) hc hP) dX2_takes_95
              · refine lv_iconst (v := (-1)) hx hb dX2_takes_80 (by decide) ?_
                refine lv_goto (tgt := 92) hx hb dX2_takes_81 (by decide) ?_
                refine iv9_to (vX 201 c) (by show _ = if c = 45 then (-1 : Int32) else nmI 48 57 c; rw [if_pos c7]) ?_
                refine nv_kG (va_runV (As := [.int (vX 201 c)]) (rest := []) ⟨hx, hb, hml, hown, hts⟩ (c_X2_keepValue l hD (vX 201 c) hv5) (cwV 1 hts gX2_takes_X2_keepValue rfl rfl rfl (by decide +kernel) ⟨Nat.le_of_ble_eq_true rfl, Nat.le_of_ble_eq_true rfl⟩) (nt_pV hT hS hP (va_recv hK.1 hP (ci := 4) (q0 := 0) rfl rfl)) rfl rfl hl.1 rfl (lv_room (Nat.le_of_ble_eq_true rfl)) dX2_takes_92 ⟨Nat.zero_le _, Nat.zero_le _⟩) hS (fun _ h9 => h9) (fun H locs hP1 hK1 hS => ?_)
                have hP : va_P D vwCl [(x 0, .inr (4, [.ref (x 1), .int (nI o), .int (nI pl), .int (nI ty), .ref (x 2), .int (nI ((if vX 201 c = -2 then vc else vc + 1)))])), (x 1, .inl (cI, 5, .inl ((if vX 201 c = -2 then V else upd V vc (vX 201 c))))), (x 2, .inl (cC, 60, .inl (gN SA)))] H := hP1
                exact nv_retG hq hx hb hr hlocks (nar_zb _) (congrArg nI (bI_congr (tk_b (w := 201) (by decide) (by decide) hc))) hS (tk_fin (w := 201) (by decide) (by decide) hc hP) dX2_takes_95
            ·
              skip
              refine lv_lookup (off := 141) (tgt := 142) hx hb dX2_takes_1 (by decide) ((lv_osw c1 rfl).trans ((lv_osw c2 rfl).trans ((lv_osw c3 rfl).trans ((lv_osw c4 rfl).trans ((lv_osw c5 rfl).trans ((lv_osw c6 rfl).trans rfl)))))) (by decide) ?_
              have hpw : pw w = w := pw_lit (by omega) c1 c2 c3 c4 c5 c6
              refine lv_iload_n hx hb dX2_takes_142 rfl (lv_at hl 1 rfl) ?_
              refine lv_iload_n hx hb dX2_takes_143 rfl (lv_at hl 2 rfl) ?_
              refine lv_icmp_ne (tgt := 151) hx hb dX2_takes_144 (by decide) (fun c8 => ?_) (fun c8 => ?_)
              · refine lv_iconst (v := nI 0) hx hb dX2_takes_151 (by decide) ?_
                exact nv_retG hq hx hb hr hlocks (nar_z (by omega)) (nv_in0 (fun q => by rw [hpw] at q; exact c8 ((okI_lit (by omega)).mp q).symm)) hS (by rw [if_neg (fun q => absurd q.2 (by rw [hpw]; omega)), if_neg (fun q => absurd q.2 (by rw [hpw]; omega))]; exact hP) dX2_takes_152
              · refine lv_iconst (v := nI 1) hx hb dX2_takes_147 (by decide) ?_
                refine lv_goto (tgt := 152) hx hb dX2_takes_148 (by decide) ?_
                exact nv_retG hq hx hb hr hlocks (nar_z (by omega)) (nv_in1 (by rw [hpw]; exact (okI_lit (by omega)).mpr c8.symm)) hS (by rw [if_neg (fun q => absurd q.2 (by rw [hpw]; omega)), if_neg (fun q => absurd q.2 (by rw [hpw]; omega))]; exact hP) dX2_takes_152
