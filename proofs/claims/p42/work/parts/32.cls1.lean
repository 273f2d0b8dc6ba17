theorem thr_eq {z t : Nat} (hz : z < 2 ^ 31) (ht : t + 1 < 2 ^ 31) : nI z - nI 1 = nI t ↔ z = t + 1 := by
  by_cases h0 : z = 0
  · subst h0
    constructor
    · intro q
      have h1 := congrArg Int32.toInt q
      rw [nI_toInt (by omega)] at h1
      have e : (nI 0 - nI 1).toInt = -1 := by decide
      omega
    · intro q; omega
  · rw [pk_sub (by omega), nI_eq (by omega) (by omega)]
    omega
def gBehind (G : Nat → Nat) (d r : Nat) : Int32 := if G (80 + d) = 0 then -1 else (if G (88 + d) = r then nI (G (96 + d)) else (if G (96 + d) = r then nI (G (88 + d)) else -1))
/-- the rooms beside a set of rooms -/
def gBes (G : Nat → Nat) (z : Nat) (x : Int32) : Nat → Nat
  | 0 => 0
  | d + 1 => if G (80 + d) = 1 ∨ nI d = x then (gBes G z x d ||| (z >>> G (88 + d) &&& 1) <<< G (96 + d)) ||| (z >>> G (96 + d) &&& 1) <<< G (88 + d) else gBes G z x d
theorem gNx_bes (G : Nat → Nat) (z : Nat) (x : Int32) : ∀ d, gNx G z x d = z ||| gBes G z x d
  | 0 => (Nat.or_zero z).symm
  | d + 1 => by
    unfold gNx gBes
    rw [gNx_bes G z x d]
    split
    · rw [Nat.or_assoc, Nat.or_assoc, Nat.or_assoc]
    · rfl
def gLk (G : Nat → Nat) (a n i : Nat) : Nat → Nat
  | 0 => 0
  | j + 1 => gLk G a n i j + bI (i < j ∧ G (gEndAt a i n) = G (gEndAt a j n))
/-- the like pairs of a declension in a number -/
def gLike (G : Nat → Nat) (a n : Nat) : Nat := sm (fun i => gLk G a n i 4) 4
theorem gLike_syn (G : Nat → Nat) (a : Nat) : gLike G a 0 + gLike G a 1 = gSyn G a := by
  have h : ∀ (i j n : Nat), bI (i < j ∧ G (gEndAt a i n) = G (gEndAt a j n)) = if i < j then bI (G (gEndAt a j n) = G (gEndAt a i n)) else 0 := by
    intro i j n
    by_cases q : i < j
    · rw [if_pos q]; exact bI_congr ⟨fun z => z.2.symm, fun z => ⟨q, z.symm⟩⟩
    · rw [if_neg q]; exact bI_f (fun z => q z.1)
  unfold gLike gSyn
  simp only [sm, gLk, gSyn1, h]
  have hF : ∀ (i9 : Decidable False), @bI False i9 = 0 := fun _ => bI_f (fun z => z)
  simp (config := { decide := true }) only [if_true, if_false, Nat.zero_add, Nat.add_zero, hF]
  omega

set_option maxHeartbeats 1000000 in
set_option maxRecDepth 100000 in
theorem c_X1_doorsOn (l : Launch) {D : va_G} {cI cC cD cR : ClassId} {sa : sA} {A : Nat → Prop} {ad : Nat → Nat} {u : hS} {G : Nat → Nat} {b : Nat} (hR : hRel u G) (hG : gWf b G) (t : Nat) (ht : t < 6) : Met l yX1_doorsOn wsX1_doorsOn ({ frames := 0, cells := 0, slots := 0, locals := 0 }) (va_Pc [.ref (ad 0), .int (nI t)] (tPre D [(cI, .int), (cC, .char), (cD, .object "DoorDialect$Door"), (cR, .object "DoorDialect$House")] nN sa A (fun H => va_P D vwCl (hw cI cD ad u) H))) (sQ (nI (gStand G t))) 0 0 (fun _ => False) := by
  refine nv_met (cc := cX1_doorsOn) (maxL := 4) (ret := (some .int)) (by decide) rfl (Nat.le_of_ble_eq_true rfl) ?_
  intro p0 e0 s m0 args below meth c0 Q hq hargs hnA hpre ls hl
  obtain ⟨hx, hb, hr, hts, hown, hlocks, hml⟩ := hnA
  obtain ⟨hP, hT⟩ := hpre
  have hK := hT.1
  have hown : s.vm.findClass RX1 = some m0.cls := hown
  have hP : va_P D vwCl (hw cI cD ad u) s.heap := hP
  have hl : lv_has ls 4 [(0, .ref (ad 0)), (1, .int (nI t))] := hl
  have hS : va_S A s.heap s.heap [] := va_S.rf
  have in_X0 : ∀ w ∈ wsX00, w ∈ wsX1_doorsOn := by decide +kernel
  have in_X1 : ∀ w ∈ wsX10, w ∈ wsX1_doorsOn := by decide +kernel
  have fl_11 := hts (.fieldLink RX1 11 "DoorDialect$House" "doors" "[LDoorDialect$Door;") (by decide +kernel)
  have fl_34 := hts (.fieldLink RX1 34 "DoorDialect$House" "doorCount" "I") (by decide +kernel)
  have fl_85 := hts (.fieldLink RX1 85 "DoorDialect$Door" "threshold" "I") (by decide +kernel)
  obtain ⟨g_b, g_k, g_0, g_1, g_2, g_e, g_d, g_t, g_y, g_s, g_h⟩ := id hG
  refine lv_iconst (v := nI 0) hx hb dX1_doorsOn_0 (by decide) ?_
  refine lv_istore_n (lv' := [(2, .int (nI 0)), (0, .ref (ad 0)), (1, .int (nI t))]) hx hb dX1_doorsOn_1 rfl hl (by decide) rfl (fun ls hl => ?_)
  refine lv_iconst (v := nI 0) hx hb dX1_doorsOn_2 (by decide) ?_
  refine lv_istore_n (lv' := [(3, .int (nI 0)), (2, .int (nI 0)), (0, .ref (ad 0)), (1, .int (nI t))]) hx hb dX1_doorsOn_3 rfl hl (by decide) rfl (fun ls hl => ?_)
  have hloop1 : ∀ (nn : Nat) (d : Nat) (t9 : Nat), (d ≤ G 0) → (t9 = sm (fun d => bI (G (56 + d) = t + 1)) d) → G 0 - d < nn → ∀ (ls : Array Slot), lv_has ls 4 [(3, .int (nI d)), (2, .int (nI t9)), (0, .ref (ad 0)), (1, .int (nI t))] → W p0 l e0 ({ frames := 0, cells := 0, slots := 0, locals := 0 }) s m0 args below meth c0 s.heap [] 0 0 Q (F0 m0 4 ls []) := by
    intro nn4
    induction nn4 with
    | zero => intro d t9 hd9 ht9 hn0  _ _; exact absurd hn0 (Nat.not_lt_zero _)
    | succ nn4 ih4 =>
      intro d t9 hd9 ht9 hn4  ls hl
      refine lv_iload_n hx hb dX1_doorsOn_4 rfl (lv_at hl 0 rfl) ?_
      refine lv_aload_n hx hb dX1_doorsOn_5 rfl (lv_at hl 2 rfl) ?_
      refine va_get (D := D) (ci := 3) (v := .int (nI (hs_c u 0))) (C := RX1) (T := TX1) (N := 12) hx hb hts in_X1 hown hK.1 hP 0 rfl rfl 5 (by decide) fl_34 (fun _ h9 => h9) rfl dX1_doorsOn_6 ?_
      refine nv_to (G 0) (congrArg nI (hR.c0)) ?_
      refine nv_icmp_ge (tgt := 34) hx hb dX1_doorsOn_9 (by decide) (by omega) (by omega) (fun c2 => ?_) (fun c2 => ?_)
      · refine lv_iload_n hx hb dX1_doorsOn_34 rfl (lv_at hl 1 rfl) ?_
        exact nv_retS hq hx hb hr hlocks (nar_i _) (by rw [ht9, show d = G 0 by omega] <;> rfl) dX1_doorsOn_35
      · refine lv_aload_n hx hb dX1_doorsOn_12 rfl (lv_at hl 2 rfl) ?_
        refine va_get (D := D) (ci := 3) (v := .ref (ad 1)) (C := RX1) (T := TX1) (N := 12) hx hb hts in_X1 hown hK.1 hP 0 rfl rfl 0 (by decide) fl_11 (fun _ h9 => h9) rfl dX1_doorsOn_13 ?_
        refine lv_iload_n hx hb dX1_doorsOn_16 rfl (lv_at hl 0 rfl) ?_
        refine nv_aldq (i := d) hx hb hK.1 hP 1 2 rfl rfl (by omega) (by decide) dX1_doorsOn_17 ?_
        refine va_get (D := D) (ci := 2) (v := .int (nI (hs_d u (d) 5) - nI 1)) (C := RX0) (T := TX0) (N := 10) hx hb hts in_X0 hown hK.1 hP (6 + (d)) (hw_at (d) (by omega)) rfl 5 (by decide) fl_85 (fun _ h9 => h9) rfl dX1_doorsOn_18 ?_
        refine iv_to (nI (G (56 + d)) - nI 1) (congrArg (fun z => nI z - nI 1) (hR.d5 (d := d) (by omega))) ?_
        refine lv_iload_n hx hb dX1_doorsOn_21 rfl (lv_at hl 3 rfl) ?_
        refine lv_icmp_ne (tgt := 28) hx hb dX1_doorsOn_22 (by decide) (fun c3 => ?_) (fun c3 => ?_)
        · refine lv_iinc (v := nI (d + 1)) (lv' := [(3, .int (nI (d + 1))), (2, .int (nI t9)), (0, .ref (ad 0)), (1, .int (nI t))]) hx hb dX1_doorsOn_28 hl (k := 0) rfl (by show nI _ + Int32.ofInt 1 = _; exact nI_add _ 1) (by decide) rfl (fun ls hl => ?_)
          refine lv_goto (tgt := 4) hx hb dX1_doorsOn_31 (by decide) ?_
          exact ih4  (d + 1) t9 ((by omega)) ((by rw [ht9]; show _ = sm (fun d => bI (G (56 + d) = t + 1)) d + bI _; rw [bI_f (fun q => c3 ((thr_eq (Nat.lt_trans (hG.lt (by omega)) (by decide)) (by omega)).mpr q))] <;> rfl)) (by omega) ls (lv_sub hl [0, 1, 2, 3] rfl)
        · refine lv_iinc (v := nI (t9 + 1)) (lv' := [(2, .int (nI (t9 + 1))), (3, .int (nI d)), (0, .ref (ad 0)), (1, .int (nI t))]) hx hb dX1_doorsOn_25 hl (k := 1) rfl (by show nI _ + Int32.ofInt 1 = _; exact nI_add _ 1) (by decide) rfl (fun ls hl => ?_)
          refine lv_iinc (v := nI (d + 1)) (lv' := [(3, .int (nI (d + 1))), (2, .int (nI (t9 + 1))), (0, .ref (ad 0)), (1, .int (nI t))]) hx hb dX1_doorsOn_28 hl (k := 1) rfl (by show nI _ + Int32.ofInt 1 = _; exact nI_add _ 1) (by decide) rfl (fun ls hl => ?_)
          refine lv_goto (tgt := 4) hx hb dX1_doorsOn_31 (by decide) ?_
          exact ih4  (d + 1) (t9 + 1) ((by omega)) ((by rw [ht9]; show _ = sm (fun d => bI (G (56 + d) = t + 1)) d + bI _; rw [bI_t ((thr_eq (Nat.lt_trans (hG.lt (by omega)) (by decide)) (by omega)).mp c3)] <;> rfl)) (by omega) ls (lv_sub hl [0, 1, 2, 3] rfl)
  exact hloop1 _ 0 0 ((Nat.zero_le _)) (rfl) (Nat.lt_succ_self _) ls (lv_sub hl [0, 1, 2, 3] rfl)

set_option maxHeartbeats 1000000 in
set_option maxRecDepth 100000 in
theorem c_X1_fit (l : Launch) {D : va_G} {cI cC cD cR : ClassId} {sa : sA} {A : Nat → Prop} {ad : Nat → Nat} {u : hS} {G : Nat → Nat} {b : Nat} (hR : hRel u G) (hG : gWf b G) (k d : Nat) (hk : k < G 2) (hd : d < G 0) : Met l yX1_fit wsX1_fit ({ frames := 0, cells := 0, slots := 0, locals := 0 }) (va_Pc [.ref (ad 0), .int (nI k), .int (nI d)] (tPre D [(cI, .int), (cC, .char), (cD, .object "DoorDialect$Door"), (cR, .object "DoorDialect$House")] nN sa A (fun H => va_P D vwCl (hw cI cD ad u) H))) (sQ (nI (gFit G k (G (32 + d)) (G (40 + d))))) 0 0 (fun _ => False) := by
  refine nv_met (cc := cX1_fit) (maxL := 4) (ret := (some .int)) (by decide) rfl (Nat.le_of_ble_eq_true rfl) ?_
  intro p0 e0 s m0 args below meth c0 Q hq hargs hnA hpre ls hl
  obtain ⟨hx, hb, hr, hts, hown, hlocks, hml⟩ := hnA
  obtain ⟨hP, hT⟩ := hpre
  have hK := hT.1
  have hown : s.vm.findClass RX1 = some m0.cls := hown
  have hP : va_P D vwCl (hw cI cD ad u) s.heap := hP
  have hl : lv_has ls 4 [(0, .ref (ad 0)), (1, .int (nI k)), (2, .int (nI d))] := hl
  have hS : va_S A s.heap s.heap [] := va_S.rf
  have in_X0 : ∀ w ∈ wsX00, w ∈ wsX1_fit := by decide +kernel
  have in_X1 : ∀ w ∈ wsX10, w ∈ wsX1_fit := by decide +kernel
  have fl_11 := hts (.fieldLink RX1 11 "DoorDialect$House" "doors" "[LDoorDialect$Door;") (by decide +kernel)
  have fl_21 := hts (.fieldLink RX1 21 "DoorDialect$House" "keyDeclensions" "[I") (by decide +kernel)
  have fl_24 := hts (.fieldLink RX1 24 "DoorDialect$House" "keyGenders" "[I") (by decide +kernel)
  have fl_99 := hts (.fieldLink RX1 99 "DoorDialect$Door" "declension" "I") (by decide +kernel)
  have fl_110 := hts (.fieldLink RX1 110 "DoorDialect$Door" "gender" "I") (by decide +kernel)
  obtain ⟨g_b, g_k, g_0, g_1, g_2, g_e, g_d, g_t, g_y, g_s, g_h⟩ := id hG
  obtain ⟨w_a, w_g, w_n, w_s, w_w, w_l, w_o, w_x, w_y, w_1, w_2, w_3, w_4⟩ := hG.door (d := d) (by omega)
  have hcc := gWf_case hG (d := d) (by omega)
  refine lv_aload_n hx hb dX1_fit_0 rfl (lv_at hl 0 rfl) ?_
  refine va_get (D := D) (ci := 3) (v := .ref (ad 3)) (C := RX1) (T := TX1) (N := 12) hx hb hts in_X1 hown hK.1 hP 0 rfl rfl 2 (by decide) fl_21 (fun _ h9 => h9) rfl dX1_fit_1 ?_
  refine lv_iload_n hx hb dX1_fit_4 rfl (lv_at hl 1 rfl) ?_
  refine nv_gald (i := k) hx hb hK.1 hP 3 0 rfl rfl (by omega) (by decide) dX1_fit_5 ?_
  refine nv_to (G (118 + k)) (congrArg nI (hR.kd (k := k) (by omega))) ?_
  have q1 : G (118 + k) < 2 ^ 20 := hG.lt (by omega)
  refine lv_aload_n hx hb dX1_fit_6 rfl (lv_at hl 0 rfl) ?_
  refine va_get (D := D) (ci := 3) (v := .ref (ad 1)) (C := RX1) (T := TX1) (N := 12) hx hb hts in_X1 hown hK.1 hP 0 rfl rfl 0 (by decide) fl_11 (fun _ h9 => h9) rfl dX1_fit_7 ?_
  refine lv_iload_n hx hb dX1_fit_10 rfl (lv_at hl 2 rfl) ?_
  refine nv_aldq (i := d) hx hb hK.1 hP 1 2 rfl rfl (by omega) (by decide) dX1_fit_11 ?_
  refine va_get (D := D) (ci := 2) (v := .int (nI (hs_d u (d) 0))) (C := RX0) (T := TX0) (N := 10) hx hb hts in_X0 hown hK.1 hP (6 + (d)) (hw_at (d) (by omega)) rfl 0 (by decide) fl_99 (fun _ h9 => h9) rfl dX1_fit_12 ?_
  refine nv_to (G (32 + d)) (congrArg nI (hR.d0 (d := d) (by omega))) ?_
  have q2 : G (32 + d) < 2 ^ 20 := hG.lt (by omega)
  refine nv_jn (α := Nat) (fun r => W p0 l e0 ({ frames := 0, cells := 0, slots := 0, locals := 0 }) s m0 args below meth c0 s.heap [] 0 0 Q (F0 m0 23 ls (.int (nI r) :: []))) (bI (G (118 + k) = G (32 + d))) (fun r er => ?_) (fun hJ => ?_)
  · subst er
    refine lv_istore_n (lv' := [(3, .int (nI (bI (G (118 + k) = G (32 + d))))), (0, .ref (ad 0)), (1, .int (nI k)), (2, .int (nI d))]) hx hb dX1_fit_23 rfl hl (by decide) rfl (fun ls hl => ?_)
    refine lv_iload_n hx hb dX1_fit_24 rfl (lv_at hl 0 rfl) ?_
    refine lv_aload_n hx hb dX1_fit_25 rfl (lv_at hl 1 rfl) ?_
    refine va_get (D := D) (ci := 3) (v := .ref (ad 4)) (C := RX1) (T := TX1) (N := 12) hx hb hts in_X1 hown hK.1 hP 0 rfl rfl 3 (by decide) fl_24 (fun _ h9 => h9) rfl dX1_fit_26 ?_
    refine lv_iload_n hx hb dX1_fit_29 rfl (lv_at hl 2 rfl) ?_
    refine nv_gald (i := k) hx hb hK.1 hP 4 0 rfl rfl (by omega) (by decide) dX1_fit_30 ?_
    refine nv_to (G (123 + k)) (congrArg nI (hR.kg (k := k) (by omega))) ?_
    have q4 : G (123 + k) < 2 ^ 20 := hG.lt (by omega)
    refine lv_aload_n hx hb dX1_fit_31 rfl (lv_at hl 1 rfl) ?_
    refine va_get (D := D) (ci := 3) (v := .ref (ad 1)) (C := RX1) (T := TX1) (N := 12) hx hb hts in_X1 hown hK.1 hP 0 rfl rfl 0 (by decide) fl_11 (fun _ h9 => h9) rfl dX1_fit_32 ?_
    refine lv_iload_n hx hb dX1_fit_35 rfl (lv_at hl 3 rfl) ?_
    refine nv_aldq (i := d) hx hb hK.1 hP 1 2 rfl rfl (by omega) (by decide) dX1_fit_36 ?_
    refine va_get (D := D) (ci := 2) (v := .int (nI (hs_d u (d) 1))) (C := RX0) (T := TX0) (N := 10) hx hb hts in_X0 hown hK.1 hP (6 + (d)) (hw_at (d) (by omega)) rfl 1 (by decide) fl_110 (fun _ h9 => h9) rfl dX1_fit_37 ?_
    refine nv_to (G (40 + d)) (congrArg nI (hR.d1 (d := d) (by omega))) ?_
    have q5 : G (40 + d) < 2 ^ 20 := hG.lt (by omega)
    refine nv_jn (α := Nat) (fun r => W p0 l e0 ({ frames := 0, cells := 0, slots := 0, locals := 0 }) s m0 args below meth c0 s.heap [] 0 0 Q (F0 m0 48 ls (.int (nI r) :: [.int (nI (bI (G (118 + k) = G (32 + d))))]))) (bI (G (123 + k) = G (40 + d))) (fun r er => ?_) (fun hJ => ?_)
    · subst er
      refine nv_iadd hx hb dX1_fit_48 ?_
      refine lv_istore_n (lv' := [(3, .int (nI (bI (G (118 + k) = G (32 + d)) + (bI (G (123 + k) = G (40 + d)))))), (0, .ref (ad 0)), (1, .int (nI k)), (2, .int (nI d))]) hx hb dX1_fit_49 rfl hl (by decide) rfl (fun ls hl => ?_)
      refine lv_iload_n hx hb dX1_fit_50 rfl (lv_at hl 0 rfl) ?_
      exact nv_retS hq hx hb hr hlocks (nar_i _) (rfl) dX1_fit_51
    · refine nv_icmp_ne (tgt := 47) hx hb dX1_fit_40 (by decide) (by omega) (by omega) (fun c6 => ?_) (fun c6 => ?_)
      · refine lv_iconst (v := nI 0) hx hb dX1_fit_47 (by decide) ?_
        exact hJ _ (bI_f c6).symm
      · refine lv_iconst (v := nI 1) hx hb dX1_fit_43 (by decide) ?_
        refine lv_goto (tgt := 48) hx hb dX1_fit_44 (by decide) ?_
        exact hJ _ (bI_t c6).symm
  · refine nv_icmp_ne (tgt := 22) hx hb dX1_fit_15 (by decide) (by omega) (by omega) (fun c3 => ?_) (fun c3 => ?_)
    · refine lv_iconst (v := nI 0) hx hb dX1_fit_22 (by decide) ?_
      exact hJ _ (bI_f c3).symm
    · refine lv_iconst (v := nI 1) hx hb dX1_fit_18 (by decide) ?_
      refine lv_goto (tgt := 23) hx hb dX1_fit_19 (by decide) ?_
      exact hJ _ (bI_t c3).symm

set_option maxHeartbeats 1000000 in
set_option maxRecDepth 100000 in
theorem c_X1_keyWith (l : Launch) {D : va_G} {cI cC cD cR : ClassId} {sa : sA} {A : Nat → Prop} {ad : Nat → Nat} {u : hS} {G : Nat → Nat} {b : Nat} (hR : hRel u G) (hG : gWf b G) (a g : Nat) (ha : a < 2 ^ 31) (hg : g < 2 ^ 31) : Met l yX1_keyWith wsX1_keyWith ({ frames := 0, cells := 0, slots := 0, locals := 0 }) (va_Pc [.ref (ad 0), .int (nI a), .int (nI g)] (tPre D [(cI, .int), (cC, .char), (cD, .object "DoorDialect$Door"), (cR, .object "DoorDialect$House")] nN sa A (fun H => va_P D vwCl (hw cI cD ad u) H))) (sQ ((if gSame G a g < G 2 then nI (gSame G a g) else -1))) 0 0 (fun _ => False) := by
  refine nv_met (cc := cX1_keyWith) (maxL := 4) (ret := (some .int)) (by decide) rfl (Nat.le_of_ble_eq_true rfl) ?_
  intro p0 e0 s m0 args below meth c0 Q hq hargs hnA hpre ls hl
  obtain ⟨hx, hb, hr, hts, hown, hlocks, hml⟩ := hnA
  obtain ⟨hP, hT⟩ := hpre
  have hK := hT.1
  have hown : s.vm.findClass RX1 = some m0.cls := hown
  have hP : va_P D vwCl (hw cI cD ad u) s.heap := hP
  have hl : lv_has ls 4 [(0, .ref (ad 0)), (1, .int (nI a)), (2, .int (nI g))] := hl
  have hS : va_S A s.heap s.heap [] := va_S.rf
  have in_X1 : ∀ w ∈ wsX10, w ∈ wsX1_keyWith := by decide +kernel
  have fl_21 := hts (.fieldLink RX1 21 "DoorDialect$House" "keyDeclensions" "[I") (by decide +kernel)
  have fl_24 := hts (.fieldLink RX1 24 "DoorDialect$House" "keyGenders" "[I") (by decide +kernel)
  have fl_41 := hts (.fieldLink RX1 41 "DoorDialect$House" "keyCount" "I") (by decide +kernel)
  obtain ⟨g_b, g_k, g_0, g_1, g_2, g_e, g_d, g_t, g_y, g_s, g_h⟩ := id hG
  refine lv_iconst (v := nI 0) hx hb dX1_keyWith_0 (by decide) ?_
  refine lv_istore_n (lv' := [(3, .int (nI 0)), (0, .ref (ad 0)), (1, .int (nI a)), (2, .int (nI g))]) hx hb dX1_keyWith_1 rfl hl (by decide) rfl (fun ls hl => ?_)
  have hloop1 : ∀ (nn : Nat) (k : Nat), (k ≤ G 2) → (∀ j, j < k → ¬ gFit G j a g = 2) → G 2 - k < nn → ∀ (ls : Array Slot), lv_has ls 4 [(3, .int (nI k)), (0, .ref (ad 0)), (1, .int (nI a)), (2, .int (nI g))] → W p0 l e0 ({ frames := 0, cells := 0, slots := 0, locals := 0 }) s m0 args below meth c0 s.heap [] 0 0 Q (F0 m0 2 ls []) := by
    intro nn2
    induction nn2 with
    | zero => intro k hk hn hn0  _ _; exact absurd hn0 (Nat.not_lt_zero _)
    | succ nn2 ih2 =>
      intro k hk hn hn2  ls hl
      refine lv_iload_n hx hb dX1_keyWith_2 rfl (lv_at hl 0 rfl) ?_
      refine lv_aload_n hx hb dX1_keyWith_3 rfl (lv_at hl 1 rfl) ?_
      refine va_get (D := D) (ci := 3) (v := .int (nI (hs_c u 2))) (C := RX1) (T := TX1) (N := 12) hx hb hts in_X1 hown hK.1 hP 0 rfl rfl 7 (by decide) fl_41 (fun _ h9 => h9) rfl dX1_keyWith_4 ?_
      refine nv_to (G 2) (congrArg nI (hR.c2)) ?_
      refine nv_icmp_ge (tgt := 38) hx hb dX1_keyWith_7 (by decide) (by omega) (by omega) (fun c2 => ?_) (fun c2 => ?_)
      · refine lv_iconst (v := (-1)) hx hb dX1_keyWith_38 (by decide) ?_
        exact nv_retS hq hx hb hr hlocks (nar_i _) (by rw [show gSame G a g = G 2 from fd_none (fun j hj => hn j (by omega)), if_neg (by omega)]) dX1_keyWith_39
      · refine lv_aload_n hx hb dX1_keyWith_10 rfl (lv_at hl 1 rfl) ?_
        refine va_get (D := D) (ci := 3) (v := .ref (ad 3)) (C := RX1) (T := TX1) (N := 12) hx hb hts in_X1 hown hK.1 hP 0 rfl rfl 2 (by decide) fl_21 (fun _ h9 => h9) rfl dX1_keyWith_11 ?_
        refine lv_iload_n hx hb dX1_keyWith_14 rfl (lv_at hl 0 rfl) ?_
        refine nv_gald (i := k) hx hb hK.1 hP 3 0 rfl rfl (by omega) (by decide) dX1_keyWith_15 ?_
        refine nv_to (G (118 + k)) (congrArg nI (hR.kd (k := k) (by omega))) ?_
        have q3 : G (118 + k) < 2 ^ 20 := hG.lt (by omega)
        refine lv_iload_n hx hb dX1_keyWith_16 rfl (lv_at hl 2 rfl) ?_
        refine nv_icmp_ne (tgt := 32) hx hb dX1_keyWith_17 (by decide) (by omega) (by omega) (fun c4 => ?_) (fun c4 => ?_)
        · refine lv_iinc (v := nI (k + 1)) (lv' := [(3, .int (nI (k + 1))), (0, .ref (ad 0)), (1, .int (nI a)), (2, .int (nI g))]) hx hb dX1_keyWith_32 hl (k := 0) rfl (by show nI _ + Int32.ofInt 1 = _; exact nI_add _ 1) (by decide) rfl (fun ls hl => ?_)
          refine lv_goto (tgt := 2) hx hb dX1_keyWith_35 (by decide) ?_
          exact ih2  (k + 1) ((by omega)) ((fun j hj => by rcases (show j < k ∨ j = k by omega) with h | h; exact hn j h; subst h; exact (fun q => by unfold gFit at q; rw [bI_f c4] at q; have := bI_le (G (123 + j) = g); omega))) (by omega) ls (lv_sub hl [0, 1, 2, 3] rfl)
        · refine lv_aload_n hx hb dX1_keyWith_20 rfl (lv_at hl 1 rfl) ?_
          refine va_get (D := D) (ci := 3) (v := .ref (ad 4)) (C := RX1) (T := TX1) (N := 12) hx hb hts in_X1 hown hK.1 hP 0 rfl rfl 3 (by decide) fl_24 (fun _ h9 => h9) rfl dX1_keyWith_21 ?_
          refine lv_iload_n hx hb dX1_keyWith_24 rfl (lv_at hl 0 rfl) ?_
          refine nv_gald (i := k) hx hb hK.1 hP 4 0 rfl rfl (by omega) (by decide) dX1_keyWith_25 ?_
          refine nv_to (G (123 + k)) (congrArg nI (hR.kg (k := k) (by omega))) ?_
          have q5 : G (123 + k) < 2 ^ 20 := hG.lt (by omega)
          refine lv_iload_n hx hb dX1_keyWith_26 rfl (lv_at hl 3 rfl) ?_
          refine nv_icmp_ne (tgt := 32) hx hb dX1_keyWith_27 (by decide) (by omega) (by omega) (fun c6 => ?_) (fun c6 => ?_)
          · refine lv_iinc (v := nI (k + 1)) (lv' := [(3, .int (nI (k + 1))), (0, .ref (ad 0)), (1, .int (nI a)), (2, .int (nI g))]) hx hb dX1_keyWith_32 hl (k := 0) rfl (by show nI _ + Int32.ofInt 1 = _; exact nI_add _ 1) (by decide) rfl (fun ls hl => ?_)
            refine lv_goto (tgt := 2) hx hb dX1_keyWith_35 (by decide) ?_
            exact ih2  (k + 1) ((by omega)) ((fun j hj => by rcases (show j < k ∨ j = k by omega) with h | h; exact hn j h; subst h; exact (fun q => by unfold gFit at q; rw [bI_f c6] at q; have := bI_le (G (118 + j) = a); omega))) (by omega) ls (lv_sub hl [0, 1, 2, 3] rfl)
          · refine lv_iload_n hx hb dX1_keyWith_30 rfl (lv_at hl 0 rfl) ?_
            exact nv_retS hq hx hb hr hlocks (nar_i _) (by rw [show gSame G a g = k from fd_some hn (by unfold gFit; rw [bI_t c4, bI_t c6]) (by omega), if_pos (by omega)]) dX1_keyWith_31
  exact hloop1 _ 0 ((Nat.zero_le _)) ((fun j hj => absurd hj (Nat.not_lt_zero j))) (Nat.lt_succ_self _) ls (lv_sub hl [0, 1, 2, 3] rfl)

set_option maxHeartbeats 1000000 in
set_option maxRecDepth 100000 in
theorem c_X1_measured (l : Launch) {D : va_G} {cI cC cD cR : ClassId} {sa : sA} {A : Nat → Prop} {ad : Nat → Nat} {u : hS} {G : Nat → Nat} {b : Nat} (hR : hRel u G) (hG : gWf b G) (d m : Nat) (hd : d < G 0) (hm : m < 2) : Met l yX1_measured wsX1_measured ({ frames := 0, cells := 0, slots := 0, locals := 0 }) (va_Pc [.ref (ad 0), .int (nI d), .int (nI m)] (tPre D [(cI, .int), (cC, .char), (cD, .object "DoorDialect$Door"), (cR, .object "DoorDialect$House")] nN sa A (fun H => va_P D vwCl (hw cI cD ad u) H))) (sQ (nI (G ((if m = 0 then 104 else 64) + d)))) 0 0 (fun _ => False) := by
  refine nv_met (cc := cX1_measured) (maxL := 3) (ret := (some .int)) (by decide) rfl (Nat.le_of_ble_eq_true rfl) ?_
  intro p0 e0 s m0 args below meth c0 Q hq hargs hnA hpre ls hl
  obtain ⟨hx, hb, hr, hts, hown, hlocks, hml⟩ := hnA
  obtain ⟨hP, hT⟩ := hpre
  have hK := hT.1
  have hown : s.vm.findClass RX1 = some m0.cls := hown
  have hP : va_P D vwCl (hw cI cD ad u) s.heap := hP
  have hl : lv_has ls 3 [(0, .ref (ad 0)), (1, .int (nI d)), (2, .int (nI m))] := hl
  have hS : va_S A s.heap s.heap [] := va_S.rf
  have in_X0 : ∀ w ∈ wsX00, w ∈ wsX1_measured := by decide +kernel
  have in_X1 : ∀ w ∈ wsX10, w ∈ wsX1_measured := by decide +kernel
  have fl_11 := hts (.fieldLink RX1 11 "DoorDialect$House" "doors" "[LDoorDialect$Door;") (by decide +kernel)
  have fl_127 := hts (.fieldLink RX1 127 "DoorDialect$Door" "knocks" "I") (by decide +kernel)
  have fl_134 := hts (.fieldLink RX1 134 "DoorDialect$Door" "wrongKnocks" "I") (by decide +kernel)
  obtain ⟨g_b, g_k, g_0, g_1, g_2, g_e, g_d, g_t, g_y, g_s, g_h⟩ := id hG
  refine lv_iload_n hx hb dX1_measured_0 rfl (lv_at hl 2 rfl) ?_
  refine nv_if_ne (tgt := 16) hx hb dX1_measured_1 (by decide) (by omega) (fun c1 => ?_) (fun c1 => ?_)
  · refine lv_aload_n hx hb dX1_measured_16 rfl (lv_at hl 0 rfl) ?_
    refine va_get (D := D) (ci := 3) (v := .ref (ad 1)) (C := RX1) (T := TX1) (N := 12) hx hb hts in_X1 hown hK.1 hP 0 rfl rfl 0 (by decide) fl_11 (fun _ h9 => h9) rfl dX1_measured_17 ?_
    refine lv_iload_n hx hb dX1_measured_20 rfl (lv_at hl 1 rfl) ?_
    refine nv_aldq (i := d) hx hb hK.1 hP 1 2 rfl rfl (by omega) (by decide) dX1_measured_21 ?_
    refine va_get (D := D) (ci := 2) (v := .int (nI (hs_d u (d) 6))) (C := RX0) (T := TX0) (N := 10) hx hb hts in_X0 hown hK.1 hP (6 + (d)) (hw_at (d) (by omega)) rfl 6 (by decide) fl_134 (fun _ h9 => h9) rfl dX1_measured_22 ?_
    refine nv_to (G (64 + d)) (congrArg nI (hR.d6 (d := d) (by omega))) ?_
    exact nv_retS hq hx hb hr hlocks (nar_i _) (by rw [if_neg c1]) dX1_measured_25
  · refine lv_aload_n hx hb dX1_measured_4 rfl (lv_at hl 0 rfl) ?_
    refine va_get (D := D) (ci := 3) (v := .ref (ad 1)) (C := RX1) (T := TX1) (N := 12) hx hb hts in_X1 hown hK.1 hP 0 rfl rfl 0 (by decide) fl_11 (fun _ h9 => h9) rfl dX1_measured_5 ?_
    refine lv_iload_n hx hb dX1_measured_8 rfl (lv_at hl 1 rfl) ?_
    refine nv_aldq (i := d) hx hb hK.1 hP 1 2 rfl rfl (by omega) (by decide) dX1_measured_9 ?_
    refine va_get (D := D) (ci := 2) (v := .int (nI (hs_d u (d) 7))) (C := RX0) (T := TX0) (N := 10) hx hb hts in_X0 hown hK.1 hP (6 + (d)) (hw_at (d) (by omega)) rfl 7 (by decide) fl_127 (fun _ h9 => h9) rfl dX1_measured_10 ?_
    refine nv_to (G (104 + d)) (congrArg nI (hR.d7 (d := d) (by omega))) ?_
    refine lv_goto (tgt := 25) hx hb dX1_measured_13 (by decide) ?_
    exact nv_retS hq hx hb hr hlocks (nar_i _) (by rw [if_pos c1]) dX1_measured_25

set_option maxHeartbeats 1000000 in
set_option maxRecDepth 100000 in
theorem c_X1_doorsAhead (l : Launch) {D : va_G} {cI cC cD cR : ClassId} {sa : sA} {A : Nat → Prop} {ad : Nat → Nat} {u : hS} {G : Nat → Nat} {b : Nat} (hR : hRel u G) (hG : gWf b G) (d m : Nat) (hd : d < G 0) (hm : m < 2) : Met l yX1_doorsAhead wsX1_doorsAhead ({ frames := 1, cells := 0, slots := 0, locals := 22 }) (va_Pc [.ref (ad 0), .int (nI d), .int (nI m)] (tPre D [(cI, .int), (cC, .char), (cD, .object "DoorDialect$Door"), (cR, .object "DoorDialect$House")] nN sa A (fun H => va_P D vwCl (hw cI cD ad u) H))) (sQ (nI (gRank G (if m = 0 then 104 else 64) d))) 0 0 (fun _ => False) := by
  refine nv_met (cc := cX1_doorsAhead) (maxL := 7) (ret := (some .int)) (by decide) rfl (Nat.le_of_ble_eq_true rfl) ?_
  intro p0 e0 s m0 args below meth c0 Q hq hargs hnA hpre ls hl
  obtain ⟨hx, hb, hr, hts, hown, hlocks, hml⟩ := hnA
  obtain ⟨hP, hT⟩ := hpre
  have hK := hT.1
  have hown : s.vm.findClass RX1 = some m0.cls := hown
  have hP : va_P D vwCl (hw cI cD ad u) s.heap := hP
  have hl : lv_has ls 7 [(0, .ref (ad 0)), (1, .int (nI d)), (2, .int (nI m))] := hl
  have hS : va_S A s.heap s.heap [] := va_S.rf
  have in_X1 : ∀ w ∈ wsX10, w ∈ wsX1_doorsAhead := by decide +kernel
  have fl_34 := hts (.fieldLink RX1 34 "DoorDialect$House" "doorCount" "I") (by decide +kernel)
  obtain ⟨g_b, g_k, g_0, g_1, g_2, g_e, g_d, g_t, g_y, g_s, g_h⟩ := id hG
  refine lv_aload_n hx hb dX1_doorsAhead_0 rfl (lv_at hl 0 rfl) ?_
  refine lv_iload_n hx hb dX1_doorsAhead_1 rfl (lv_at hl 1 rfl) ?_
  refine lv_iload_n hx hb dX1_doorsAhead_2 rfl (lv_at hl 2 rfl) ?_
  refine nv_kS (va_runV (As := [.int (nI d), .int (nI m)]) (rest := []) ⟨hx, hb, hml, hown, hts⟩ (c_X1_measured l hR hG d m (by omega) (by omega)) (cwV 2 hts gX1_doorsAhead_X1_measured rfl rfl rfl (by decide +kernel) ⟨Nat.le_of_ble_eq_true rfl, Nat.le_of_ble_eq_true rfl⟩) (nt_pV hT hS hP (va_recv hK.1 hP (ci := 3) (q0 := 0) rfl rfl)) rfl rfl hl.1 rfl (lv_room (Nat.le_of_ble_eq_true rfl)) dX1_doorsAhead_3 ⟨Nat.zero_le _, Nat.zero_le _⟩) ?_
  have q1 : G ((if m = 0 then 104 else 64) + d) < 2 ^ 20 := hG.lt (by split <;> omega)
  refine lv_istore_n (lv' := [(3, .int (nI (G ((if m = 0 then 104 else 64) + d)))), (0, .ref (ad 0)), (1, .int (nI d)), (2, .int (nI m))]) hx hb dX1_doorsAhead_6 rfl hl (by decide) rfl (fun ls hl => ?_)
  refine lv_iconst (v := nI 0) hx hb dX1_doorsAhead_7 (by decide) ?_
  refine lv_istore (lv' := [(4, .int (nI 0)), (3, .int (nI (G ((if m = 0 then 104 else 64) + d)))), (0, .ref (ad 0)), (1, .int (nI d)), (2, .int (nI m))]) hx hb dX1_doorsAhead_8 hl (by decide) rfl (fun ls hl => ?_)
  refine lv_iconst (v := nI 0) hx hb dX1_doorsAhead_10 (by decide) ?_
  refine lv_istore (lv' := [(5, .int (nI 0)), (4, .int (nI 0)), (3, .int (nI (G ((if m = 0 then 104 else 64) + d)))), (0, .ref (ad 0)), (1, .int (nI d)), (2, .int (nI m))]) hx hb dX1_doorsAhead_11 hl (by decide) rfl (fun ls hl => ?_)
  have hloop2 : ∀ (nn : Nat) (o : Nat) (t9 : Nat), (o ≤ G 0) → (t9 = sm (fun o => bI (G ((if m = 0 then 104 else 64) + d) < G ((if m = 0 then 104 else 64) + o) ∨ (G ((if m = 0 then 104 else 64) + o) = G ((if m = 0 then 104 else 64) + d) ∧ o < d))) o) → G 0 - o < nn → ∀ (ls : Array Slot), lv_has ls 7 [(5, .int (nI o)), (4, .int (nI t9)), (3, .int (nI (G ((if m = 0 then 104 else 64) + d)))), (0, .ref (ad 0)), (1, .int (nI d)), (2, .int (nI m))] → W p0 l e0 ({ frames := 1, cells := 0, slots := 0, locals := 22 }) s m0 args below meth c0 s.heap [] 0 0 Q (F0 m0 13 ls []) := by
    intro nn13
    induction nn13 with
    | zero => intro o t9 hd9 ht9 hn0  _ _; exact absurd hn0 (Nat.not_lt_zero _)
    | succ nn13 ih13 =>
      intro o t9 hd9 ht9 hn13  ls hl
      refine lv_iload hx hb dX1_doorsAhead_13 (lv_at hl 0 rfl) ?_
      refine lv_aload_n hx hb dX1_doorsAhead_15 rfl (lv_at hl 3 rfl) ?_
      refine va_get (D := D) (ci := 3) (v := .int (nI (hs_c u 0))) (C := RX1) (T := TX1) (N := 12) hx hb hts in_X1 hown hK.1 hP 0 rfl rfl 5 (by decide) fl_34 (fun _ h9 => h9) rfl dX1_doorsAhead_16 ?_
      refine nv_to (G 0) (congrArg nI (hR.c0)) ?_
      refine nv_icmp_ge (tgt := 58) hx hb dX1_doorsAhead_19 (by decide) (by omega) (by omega) (fun c3 => ?_) (fun c3 => ?_)
      · refine lv_iload hx hb dX1_doorsAhead_58 (lv_at hl 1 rfl) ?_
        exact nv_retS hq hx hb hr hlocks (nar_i _) (by rw [ht9, show o = G 0 by omega] <;> rfl) dX1_doorsAhead_60
      · refine lv_aload_n hx hb dX1_doorsAhead_22 rfl (lv_at hl 3 rfl) ?_
        refine lv_iload hx hb dX1_doorsAhead_23 (lv_at hl 0 rfl) ?_
        refine lv_iload_n hx hb dX1_doorsAhead_25 rfl (lv_at hl 5 rfl) ?_
        refine nv_kS (va_runV (As := [.int (nI o), .int (nI m)]) (rest := []) ⟨hx, hb, hml, hown, hts⟩ (c_X1_measured l hR hG o m (by omega) (by omega)) (cwV 2 hts gX1_doorsAhead_X1_measured rfl rfl rfl (by decide +kernel) ⟨Nat.le_of_ble_eq_true rfl, Nat.le_of_ble_eq_true rfl⟩) (nt_pV hT hS hP (va_recv hK.1 hP (ci := 3) (q0 := 0) rfl rfl)) rfl rfl hl.1 rfl (lv_room (Nat.le_of_ble_eq_true rfl)) dX1_doorsAhead_26 ⟨Nat.zero_le _, Nat.zero_le _⟩) ?_
        have q4 : G ((if m = 0 then 104 else 64) + o) < 2 ^ 20 := hG.lt (by split <;> omega)
        refine lv_istore (lv' := [(6, .int (nI (G ((if m = 0 then 104 else 64) + o)))), (5, .int (nI o)), (4, .int (nI t9)), (3, .int (nI (G ((if m = 0 then 104 else 64) + d)))), (0, .ref (ad 0)), (1, .int (nI d)), (2, .int (nI m))]) hx hb dX1_doorsAhead_29 hl (by decide) rfl (fun ls hl => ?_)
        refine lv_iload hx hb dX1_doorsAhead_31 (lv_at hl 0 rfl) ?_
        refine lv_iload_n hx hb dX1_doorsAhead_33 rfl (lv_at hl 3 rfl) ?_
        refine nv_icmp_gt (tgt := 49) hx hb dX1_doorsAhead_34 (by decide) (by omega) (by omega) (fun c5 => ?_) (fun c5 => ?_)
        · refine lv_iinc (v := nI (t9 + 1)) (lv' := [(4, .int (nI (t9 + 1))), (6, .int (nI (G ((if m = 0 then 104 else 64) + o)))), (5, .int (nI o)), (3, .int (nI (G ((if m = 0 then 104 else 64) + d)))), (0, .ref (ad 0)), (1, .int (nI d)), (2, .int (nI m))]) hx hb dX1_doorsAhead_49 hl (k := 2) rfl (by show nI _ + Int32.ofInt 1 = _; exact nI_add _ 1) (by decide) rfl (fun ls hl => ?_)
          refine lv_iinc (v := nI (o + 1)) (lv' := [(5, .int (nI (o + 1))), (4, .int (nI (t9 + 1))), (6, .int (nI (G ((if m = 0 then 104 else 64) + o)))), (3, .int (nI (G ((if m = 0 then 104 else 64) + d)))), (0, .ref (ad 0)), (1, .int (nI d)), (2, .int (nI m))]) hx hb dX1_doorsAhead_52 hl (k := 2) rfl (by show nI _ + Int32.ofInt 1 = _; exact nI_add _ 1) (by decide) rfl (fun ls hl => ?_)
          refine lv_goto (tgt := 13) hx hb dX1_doorsAhead_55 (by decide) ?_
          exact ih13  (o + 1) (t9 + 1) ((by omega)) ((by rw [ht9]; show _ = sm (fun o => bI (G ((if m = 0 then 104 else 64) + d) < G ((if m = 0 then 104 else 64) + o) ∨ (G ((if m = 0 then 104 else 64) + o) = G ((if m = 0 then 104 else 64) + d) ∧ o < d))) o + bI _; rw [bI_t (Or.inl c5)] <;> rfl)) (by omega) ls (lv_sub hl [0, 1, 3, 4, 5, 6] rfl)
        · refine lv_iload hx hb dX1_doorsAhead_37 (lv_at hl 0 rfl) ?_
          refine lv_iload_n hx hb dX1_doorsAhead_39 rfl (lv_at hl 3 rfl) ?_
          refine nv_icmp_ne (tgt := 52) hx hb dX1_doorsAhead_40 (by decide) (by omega) (by omega) (fun c6 => ?_) (fun c6 => ?_)
          · refine lv_iinc (v := nI (o + 1)) (lv' := [(5, .int (nI (o + 1))), (6, .int (nI (G ((if m = 0 then 104 else 64) + o)))), (4, .int (nI t9)), (3, .int (nI (G ((if m = 0 then 104 else 64) + d)))), (0, .ref (ad 0)), (1, .int (nI d)), (2, .int (nI m))]) hx hb dX1_doorsAhead_52 hl (k := 1) rfl (by show nI _ + Int32.ofInt 1 = _; exact nI_add _ 1) (by decide) rfl (fun ls hl => ?_)
            refine lv_goto (tgt := 13) hx hb dX1_doorsAhead_55 (by decide) ?_
            exact ih13  (o + 1) t9 ((by omega)) ((by rw [ht9]; show _ = sm (fun o => bI (G ((if m = 0 then 104 else 64) + d) < G ((if m = 0 then 104 else 64) + o) ∨ (G ((if m = 0 then 104 else 64) + o) = G ((if m = 0 then 104 else 64) + d) ∧ o < d))) o + bI _; rw [bI_f (fun q => q.elim c5 (fun z => c6 z.1))] <;> rfl)) (by omega) ls (lv_sub hl [0, 2, 3, 4, 5, 6] rfl)
          · refine lv_iload hx hb dX1_doorsAhead_43 (lv_at hl 1 rfl) ?_
            refine lv_iload_n hx hb dX1_doorsAhead_45 rfl (lv_at hl 5 rfl) ?_
            refine nv_icmp_ge (tgt := 52) hx hb dX1_doorsAhead_46 (by decide) (by omega) (by omega) (fun c7 => ?_) (fun c7 => ?_)
            · refine lv_iinc (v := nI (o + 1)) (lv' := [(5, .int (nI (o + 1))), (6, .int (nI (G ((if m = 0 then 104 else 64) + o)))), (4, .int (nI t9)), (3, .int (nI (G ((if m = 0 then 104 else 64) + d)))), (0, .ref (ad 0)), (1, .int (nI d)), (2, .int (nI m))]) hx hb dX1_doorsAhead_52 hl (k := 1) rfl (by show nI _ + Int32.ofInt 1 = _; exact nI_add _ 1) (by decide) rfl (fun ls hl => ?_)
              refine lv_goto (tgt := 13) hx hb dX1_doorsAhead_55 (by decide) ?_
              exact ih13  (o + 1) t9 ((by omega)) ((by rw [ht9]; show _ = sm (fun o => bI (G ((if m = 0 then 104 else 64) + d) < G ((if m = 0 then 104 else 64) + o) ∨ (G ((if m = 0 then 104 else 64) + o) = G ((if m = 0 then 104 else 64) + d) ∧ o < d))) o + bI _; rw [bI_f (fun q => q.elim c5 (fun z => absurd z.2 (Nat.not_lt.mpr c7)))] <;> rfl)) (by omega) ls (lv_sub hl [0, 2, 3, 4, 5, 6] rfl)
            · refine lv_iinc (v := nI (t9 + 1)) (lv' := [(4, .int (nI (t9 + 1))), (6, .int (nI (G ((if m = 0 then 104 else 64) + o)))), (5, .int (nI o)), (3, .int (nI (G ((if m = 0 then 104 else 64) + d)))), (0, .ref (ad 0)), (1, .int (nI d)), (2, .int (nI m))]) hx hb dX1_doorsAhead_49 hl (k := 2) rfl (by show nI _ + Int32.ofInt 1 = _; exact nI_add _ 1) (by decide) rfl (fun ls hl => ?_)
              refine lv_iinc (v := nI (o + 1)) (lv' := [(5, .int (nI (o + 1))), (4, .int (nI (t9 + 1))), (6, .int (nI (G ((if m = 0 then 104 else 64) + o)))), (3, .int (nI (G ((if m = 0 then 104 else 64) + d)))), (0, .ref (ad 0)), (1, .int (nI d)), (2, .int (nI m))]) hx hb dX1_doorsAhead_52 hl (k := 2) rfl (by show nI _ + Int32.ofInt 1 = _; exact nI_add _ 1) (by decide) rfl (fun ls hl => ?_)
              refine lv_goto (tgt := 13) hx hb dX1_doorsAhead_55 (by decide) ?_
              exact ih13  (o + 1) (t9 + 1) ((by omega)) ((by rw [ht9]; show _ = sm (fun o => bI (G ((if m = 0 then 104 else 64) + d) < G ((if m = 0 then 104 else 64) + o) ∨ (G ((if m = 0 then 104 else 64) + o) = G ((if m = 0 then 104 else 64) + d) ∧ o < d))) o + bI _; rw [bI_t (Or.inr ⟨c6, Nat.lt_of_not_le c7⟩)] <;> rfl)) (by omega) ls (lv_sub hl [0, 1, 3, 4, 5, 6] rfl)
  exact hloop2 _ 0 0 ((Nat.zero_le _)) (rfl) (Nat.lt_succ_self _) ls (lv_sub hl [0, 1, 2, 3, 4, 5] rfl)

set_option maxHeartbeats 1000000 in
set_option maxRecDepth 100000 in
theorem c_X1_roomBehind (l : Launch) {D : va_G} {cI cC cD cR : ClassId} {sa : sA} {A : Nat → Prop} {ad : Nat → Nat} {u : hS} {G : Nat → Nat} {b : Nat} (hR : hRel u G) (hG : gWf b G) (d r : Nat) (hd : d < G 0) (hr6 : r < 2 ^ 31) : Met l yX1_roomBehind wsX1_roomBehind ({ frames := 0, cells := 0, slots := 0, locals := 0 }) (va_Pc [.ref (ad 0), .int (nI d), .int (nI r)] (tPre D [(cI, .int), (cC, .char), (cD, .object "DoorDialect$Door"), (cR, .object "DoorDialect$House")] nN sa A (fun H => va_P D vwCl (hw cI cD ad u) H))) (sQ (gBehind G d r)) 0 0 (fun _ => False) := by
  refine nv_met (cc := cX1_roomBehind) (maxL := 3) (ret := (some .int)) (by decide) rfl (Nat.le_of_ble_eq_true rfl) ?_
  intro p0 e0 s m0 args below meth c0 Q hq hargs hnA hpre ls hl
  obtain ⟨hx, hb, hr, hts, hown, hlocks, hml⟩ := hnA
  obtain ⟨hP, hT⟩ := hpre
  have hK := hT.1
  have hown : s.vm.findClass RX1 = some m0.cls := hown
  have hP : va_P D vwCl (hw cI cD ad u) s.heap := hP
  have hl : lv_has ls 3 [(0, .ref (ad 0)), (1, .int (nI d)), (2, .int (nI r))] := hl
  have hS : va_S A s.heap s.heap [] := va_S.rf
  have in_X0 : ∀ w ∈ wsX00, w ∈ wsX1_roomBehind := by decide +kernel
  have in_X1 : ∀ w ∈ wsX10, w ∈ wsX1_roomBehind := by decide +kernel
  have fl_11 := hts (.fieldLink RX1 11 "DoorDialect$House" "doors" "[LDoorDialect$Door;") (by decide +kernel)
  have fl_130 := hts (.fieldLink RX1 130 "DoorDialect$Door" "isOpen" "Z") (by decide +kernel)
  have fl_149 := hts (.fieldLink RX1 149 "DoorDialect$Door" "oneRoom" "I") (by decide +kernel)
  have fl_152 := hts (.fieldLink RX1 152 "DoorDialect$Door" "otherRoom" "I") (by decide +kernel)
  obtain ⟨g_b, g_k, g_0, g_1, g_2, g_e, g_d, g_t, g_y, g_s, g_h⟩ := id hG
  obtain ⟨w_a, w_g, w_n, w_s, w_w, w_l, w_o, w_x, w_y, w_1, w_2, w_3, w_4⟩ := hG.door (d := d) (by omega)
  have hcc := gWf_case hG (d := d) (by omega)
  refine lv_aload_n hx hb dX1_roomBehind_0 rfl (lv_at hl 0 rfl) ?_
  refine va_get (D := D) (ci := 3) (v := .ref (ad 1)) (C := RX1) (T := TX1) (N := 12) hx hb hts in_X1 hown hK.1 hP 0 rfl rfl 0 (by decide) fl_11 (fun _ h9 => h9) rfl dX1_roomBehind_1 ?_
  refine lv_iload_n hx hb dX1_roomBehind_4 rfl (lv_at hl 1 rfl) ?_
  refine nv_aldq (i := d) hx hb hK.1 hP 1 2 rfl rfl (by omega) (by decide) dX1_roomBehind_5 ?_
  refine va_get (D := D) (ci := 2) (v := .int (nI (hs_d u (d) 9))) (C := RX0) (T := TX0) (N := 10) hx hb hts in_X0 hown hK.1 hP (6 + (d)) (hw_at (d) (by omega)) rfl 9 (by decide) fl_130 (fun _ h9 => h9) rfl dX1_roomBehind_6 ?_
  refine nv_to (G (80 + d)) (congrArg nI (hR.d9 (d := d) (by omega))) ?_
  refine nv_if_ne (tgt := 14) hx hb dX1_roomBehind_9 (by decide) (by omega) (fun c1 => ?_) (fun c1 => ?_)
  · refine lv_aload_n hx hb dX1_roomBehind_14 rfl (lv_at hl 0 rfl) ?_
    refine va_get (D := D) (ci := 3) (v := .ref (ad 1)) (C := RX1) (T := TX1) (N := 12) hx hb hts in_X1 hown hK.1 hP 0 rfl rfl 0 (by decide) fl_11 (fun _ h9 => h9) rfl dX1_roomBehind_15 ?_
    refine lv_iload_n hx hb dX1_roomBehind_18 rfl (lv_at hl 1 rfl) ?_
    refine nv_aldq (i := d) hx hb hK.1 hP 1 2 rfl rfl (by omega) (by decide) dX1_roomBehind_19 ?_
    refine va_get (D := D) (ci := 2) (v := .int (nI (hs_d u (d) 3))) (C := RX0) (T := TX0) (N := 10) hx hb hts in_X0 hown hK.1 hP (6 + (d)) (hw_at (d) (by omega)) rfl 3 (by decide) fl_149 (fun _ h9 => h9) rfl dX1_roomBehind_20 ?_
    refine nv_to (G (88 + d)) (congrArg nI (hR.d3 (d := d) (by omega))) ?_
    refine lv_iload_n hx hb dX1_roomBehind_23 rfl (lv_at hl 2 rfl) ?_
    refine nv_icmp_ne (tgt := 37) hx hb dX1_roomBehind_24 (by decide) (by omega) (by omega) (fun c2 => ?_) (fun c2 => ?_)
    · refine lv_aload_n hx hb dX1_roomBehind_37 rfl (lv_at hl 0 rfl) ?_
      refine va_get (D := D) (ci := 3) (v := .ref (ad 1)) (C := RX1) (T := TX1) (N := 12) hx hb hts in_X1 hown hK.1 hP 0 rfl rfl 0 (by decide) fl_11 (fun _ h9 => h9) rfl dX1_roomBehind_38 ?_
      refine lv_iload_n hx hb dX1_roomBehind_41 rfl (lv_at hl 1 rfl) ?_
      refine nv_aldq (i := d) hx hb hK.1 hP 1 2 rfl rfl (by omega) (by decide) dX1_roomBehind_42 ?_
      refine va_get (D := D) (ci := 2) (v := .int (nI (hs_d u (d) 4))) (C := RX0) (T := TX0) (N := 10) hx hb hts in_X0 hown hK.1 hP (6 + (d)) (hw_at (d) (by omega)) rfl 4 (by decide) fl_152 (fun _ h9 => h9) rfl dX1_roomBehind_43 ?_
      refine nv_to (G (96 + d)) (congrArg nI (hR.d4 (d := d) (by omega))) ?_
      refine lv_iload_n hx hb dX1_roomBehind_46 rfl (lv_at hl 2 rfl) ?_
      refine nv_icmp_ne (tgt := 62) hx hb dX1_roomBehind_47 (by decide) (by omega) (by omega) (fun c3 => ?_) (fun c3 => ?_)
      · refine lv_iconst (v := (-1)) hx hb dX1_roomBehind_62 (by decide) ?_
        exact nv_retS hq hx hb hr hlocks (nar_i _) (by unfold gBehind; rw [if_neg c1, if_neg c2, if_neg c3]) dX1_roomBehind_63
      · refine lv_aload_n hx hb dX1_roomBehind_50 rfl (lv_at hl 0 rfl) ?_
        refine va_get (D := D) (ci := 3) (v := .ref (ad 1)) (C := RX1) (T := TX1) (N := 12) hx hb hts in_X1 hown hK.1 hP 0 rfl rfl 0 (by decide) fl_11 (fun _ h9 => h9) rfl dX1_roomBehind_51 ?_
        refine lv_iload_n hx hb dX1_roomBehind_54 rfl (lv_at hl 1 rfl) ?_
        refine nv_aldq (i := d) hx hb hK.1 hP 1 2 rfl rfl (by omega) (by decide) dX1_roomBehind_55 ?_
        refine va_get (D := D) (ci := 2) (v := .int (nI (hs_d u (d) 3))) (C := RX0) (T := TX0) (N := 10) hx hb hts in_X0 hown hK.1 hP (6 + (d)) (hw_at (d) (by omega)) rfl 3 (by decide) fl_149 (fun _ h9 => h9) rfl dX1_roomBehind_56 ?_
        refine nv_to (G (88 + d)) (congrArg nI (hR.d3 (d := d) (by omega))) ?_
        refine lv_goto (tgt := 63) hx hb dX1_roomBehind_59 (by decide) ?_
        exact nv_retS hq hx hb hr hlocks (nar_i _) (by unfold gBehind; rw [if_neg c1, if_neg c2, if_pos c3]) dX1_roomBehind_63
    · refine lv_aload_n hx hb dX1_roomBehind_27 rfl (lv_at hl 0 rfl) ?_
      refine va_get (D := D) (ci := 3) (v := .ref (ad 1)) (C := RX1) (T := TX1) (N := 12) hx hb hts in_X1 hown hK.1 hP 0 rfl rfl 0 (by decide) fl_11 (fun _ h9 => h9) rfl dX1_roomBehind_28 ?_
      refine lv_iload_n hx hb dX1_roomBehind_31 rfl (lv_at hl 1 rfl) ?_
      refine nv_aldq (i := d) hx hb hK.1 hP 1 2 rfl rfl (by omega) (by decide) dX1_roomBehind_32 ?_
      refine va_get (D := D) (ci := 2) (v := .int (nI (hs_d u (d) 4))) (C := RX0) (T := TX0) (N := 10) hx hb hts in_X0 hown hK.1 hP (6 + (d)) (hw_at (d) (by omega)) rfl 4 (by decide) fl_152 (fun _ h9 => h9) rfl dX1_roomBehind_33 ?_
      refine nv_to (G (96 + d)) (congrArg nI (hR.d4 (d := d) (by omega))) ?_
      exact nv_retS hq hx hb hr hlocks (nar_i _) (by unfold gBehind; rw [if_neg c1, if_pos c2]) dX1_roomBehind_36
  · refine lv_iconst (v := (-1)) hx hb dX1_roomBehind_12 (by decide) ?_
    exact nv_retS hq hx hb hr hlocks (nar_i _) (by unfold gBehind; rw [if_pos c1]) dX1_roomBehind_13

theorem nb_and (a b : Nat) : nI a &&& nI b = nI (a &&& b) := by
  apply Int32.toBitVec_inj.mp
  show BitVec.ofNat 32 a &&& BitVec.ofNat 32 b = BitVec.ofNat 32 (a &&& b)
  apply BitVec.eq_of_toNat_eq
  simp [BitVec.toNat_and, BitVec.toNat_ofNat, Nat.and_mod_two_pow]
theorem bit_01 (z k : Nat) : z >>> k &&& 1 = if z &&& 1 <<< k = 0 then 0 else 1 := by
  rw [Nat.one_shiftLeft]
  by_cases h : z.testBit k = true
  · have h1 : z &&& 2 ^ k = 2 ^ k := by
      apply Nat.eq_of_testBit_eq
      intro j
      rw [Nat.testBit_and, Nat.testBit_two_pow]
      by_cases e : k = j
      · subst e; simp [h]
      · simp [e]
    rw [h1, if_neg (by have := Nat.two_pow_pos k; omega)]
    rw [Nat.testBit, Nat.and_comm, ] at h
    rw [Nat.and_one_is_mod] at h ⊢
    simp at h
    omega
  · have h1 : z &&& 2 ^ k = 0 := by
      apply Nat.eq_of_testBit_eq
      intro j
      rw [Nat.testBit_and, Nat.testBit_two_pow]
      by_cases e : k = j
      · subst e; simp [h]
      · simp [e]
    rw [h1, if_pos rfl]
    rw [Nat.testBit, Nat.and_comm] at h
    rw [Nat.and_one_is_mod] at h ⊢
    simp at h
    omega
/-- a room's bit taken over to the other room -/
theorem bit_to (z k v : Nat) : (if z &&& 1 <<< k = 0 then 0 else 1 <<< v) = (z >>> k &&& 1) <<< v := by
  rw [bit_01]
  split
  · rw [Nat.zero_shiftLeft]
  · rfl
theorem and_lt6 {z w : Nat} (h : w < 2 ^ 6) : z &&& w < 2 ^ 31 := Nat.lt_of_le_of_lt Nat.and_le_right (by omega)
theorem gBes_lt {b : Nat} {G : Nat → Nat} (hG : gWf b G) {z : Nat} {x : Int32} : ∀ d, d ≤ G 0 → gBes G z x d < 2 ^ 6
  | 0, _ => by show 0 < _; decide
  | d + 1, h => by
    have h1 := gBes_lt hG (z := z) (x := x) d (by omega)
    have h0 := hG.2.2.1
    have h2 := hG.door (d := d) (by omega)
    unfold gBes
    split
    · exact Nat.or_lt_two_pow (Nat.or_lt_two_pow h1 (b1shl_lt h2.2.2.2.2.2.2.2.2.1)) (b1shl_lt h2.2.2.2.2.2.2.2.1)
    · exact h1

set_option maxHeartbeats 1000000 in
set_option maxRecDepth 100000 in
theorem c_X1_roomsBeside (l : Launch) {D : va_G} {cI cC cD cR : ClassId} {sa : sA} {A : Nat → Prop} {ad : Nat → Nat} {u : hS} {G : Nat → Nat} {b : Nat} (hR : hRel u G) (hG : gWf b G) (z : Nat) (x : Int32) (hz : z < 2 ^ 6) : Met l yX1_roomsBeside wsX1_roomsBeside ({ frames := 0, cells := 0, slots := 0, locals := 0 }) (va_Pc [.ref (ad 0), .int (nI z), .int x] (tPre D [(cI, .int), (cC, .char), (cD, .object "DoorDialect$Door"), (cR, .object "DoorDialect$House")] nN sa A (fun H => va_P D vwCl (hw cI cD ad u) H))) (sQ (nI (gBes G z x (G 0)))) 0 0 (fun _ => False) := by
  refine nv_met (cc := cX1_roomsBeside) (maxL := 7) (ret := (some .int)) (by decide) rfl (Nat.le_of_ble_eq_true rfl) ?_
  intro p0 e0 s m0 args below meth c0 Q hq hargs hnA hpre ls hl
  obtain ⟨hx, hb, hr, hts, hown, hlocks, hml⟩ := hnA
  obtain ⟨hP, hT⟩ := hpre
  have hK := hT.1
  have hown : s.vm.findClass RX1 = some m0.cls := hown
  have hP : va_P D vwCl (hw cI cD ad u) s.heap := hP
  have hl : lv_has ls 7 [(0, .ref (ad 0)), (1, .int (nI z)), (2, .int x)] := hl
  have hS : va_S A s.heap s.heap [] := va_S.rf
  have in_X0 : ∀ w ∈ wsX00, w ∈ wsX1_roomsBeside := by decide +kernel
  have in_X1 : ∀ w ∈ wsX10, w ∈ wsX1_roomsBeside := by decide +kernel
  have fl_11 := hts (.fieldLink RX1 11 "DoorDialect$House" "doors" "[LDoorDialect$Door;") (by decide +kernel)
  have fl_34 := hts (.fieldLink RX1 34 "DoorDialect$House" "doorCount" "I") (by decide +kernel)
  have fl_130 := hts (.fieldLink RX1 130 "DoorDialect$Door" "isOpen" "Z") (by decide +kernel)
  have fl_149 := hts (.fieldLink RX1 149 "DoorDialect$Door" "oneRoom" "I") (by decide +kernel)
  have fl_152 := hts (.fieldLink RX1 152 "DoorDialect$Door" "otherRoom" "I") (by decide +kernel)
  obtain ⟨g_b, g_k, g_0, g_1, g_2, g_e, g_d, g_t, g_y, g_s, g_h⟩ := id hG
  refine lv_iconst (v := nI 0) hx hb dX1_roomsBeside_0 (by decide) ?_
  refine lv_istore_n (lv' := [(3, .int (nI 0)), (0, .ref (ad 0)), (1, .int (nI z)), (2, .int x)]) hx hb dX1_roomsBeside_1 rfl hl (by decide) rfl (fun ls hl => ?_)
  refine lv_iconst (v := nI 0) hx hb dX1_roomsBeside_2 (by decide) ?_
  refine lv_istore (lv' := [(4, .int (nI 0)), (3, .int (nI 0)), (0, .ref (ad 0)), (1, .int (nI z)), (2, .int x)]) hx hb dX1_roomsBeside_3 hl (by decide) rfl (fun ls hl => ?_)
  have hloop1 : ∀ (nn : Nat) (d : Nat) (t : Nat), (d ≤ G 0) → (t = gBes G z x d) → G 0 - d < nn → ∀ (ls : Array Slot), lv_has ls 7 [(4, .int (nI d)), (3, .int (nI t)), (0, .ref (ad 0)), (1, .int (nI z)), (2, .int x)] → W p0 l e0 ({ frames := 0, cells := 0, slots := 0, locals := 0 }) s m0 args below meth c0 s.heap [] 0 0 Q (F0 m0 5 ls []) := by
    intro nn5
    induction nn5 with
    | zero => intro d t hd ht hn0  _ _; exact absurd hn0 (Nat.not_lt_zero _)
    | succ nn5 ih5 =>
      intro d t hd ht hn5  ls hl
      refine lv_iload hx hb dX1_roomsBeside_5 (lv_at hl 0 rfl) ?_
      refine lv_aload_n hx hb dX1_roomsBeside_7 rfl (lv_at hl 2 rfl) ?_
      refine va_get (D := D) (ci := 3) (v := .int (nI (hs_c u 0))) (C := RX1) (T := TX1) (N := 12) hx hb hts in_X1 hown hK.1 hP 0 rfl rfl 5 (by decide) fl_34 (fun _ h9 => h9) rfl dX1_roomsBeside_8 ?_
      refine nv_to (G 0) (congrArg nI (hR.c0)) ?_
      refine nv_icmp_ge (tgt := 99) hx hb dX1_roomsBeside_11 (by decide) (by omega) (by omega) (fun c2 => ?_) (fun c2 => ?_)
      · refine lv_iload_n hx hb dX1_roomsBeside_99 rfl (lv_at hl 1 rfl) ?_
        exact nv_retS hq hx hb hr hlocks (nar_i _) (by rw [ht, show d = G 0 by omega]) dX1_roomsBeside_100
      · obtain ⟨w_a, w_g, w_n, w_s, w_w, w_l, w_o, w_x, w_y, w_1, w_2, w_3, w_4⟩ := hG.door (d := d) (by omega)
        refine lv_aload_n hx hb dX1_roomsBeside_14 rfl (lv_at hl 2 rfl) ?_
        refine va_get (D := D) (ci := 3) (v := .ref (ad 1)) (C := RX1) (T := TX1) (N := 12) hx hb hts in_X1 hown hK.1 hP 0 rfl rfl 0 (by decide) fl_11 (fun _ h9 => h9) rfl dX1_roomsBeside_15 ?_
        refine lv_iload hx hb dX1_roomsBeside_18 (lv_at hl 0 rfl) ?_
        refine nv_aldq (i := d) hx hb hK.1 hP 1 2 rfl rfl (by omega) (by decide) dX1_roomsBeside_20 ?_
        refine va_get (D := D) (ci := 2) (v := .int (nI (hs_d u (d) 9))) (C := RX0) (T := TX0) (N := 10) hx hb hts in_X0 hown hK.1 hP (6 + (d)) (hw_at (d) (by omega)) rfl 9 (by decide) fl_130 (fun _ h9 => h9) rfl dX1_roomsBeside_21 ?_
        refine nv_to (G (80 + d)) (congrArg nI (hR.d9 (d := d) (by omega))) ?_
        refine nv_if_ne (tgt := 33) hx hb dX1_roomsBeside_24 (by decide) (by omega) (fun c3 => ?_) (fun c3 => ?_)
        · refine lv_iconst (v := nI 1) hx hb dX1_roomsBeside_33 (by decide) ?_
          refine lv_aload_n hx hb dX1_roomsBeside_34 rfl (lv_at hl 2 rfl) ?_
          refine va_get (D := D) (ci := 3) (v := .ref (ad 1)) (C := RX1) (T := TX1) (N := 12) hx hb hts in_X1 hown hK.1 hP 0 rfl rfl 0 (by decide) fl_11 (fun _ h9 => h9) rfl dX1_roomsBeside_35 ?_
          refine lv_iload hx hb dX1_roomsBeside_38 (lv_at hl 0 rfl) ?_
          refine nv_aldq (i := d) hx hb hK.1 hP 1 2 rfl rfl (by omega) (by decide) dX1_roomsBeside_40 ?_
          refine va_get (D := D) (ci := 2) (v := .int (nI (hs_d u (d) 3))) (C := RX0) (T := TX0) (N := 10) hx hb hts in_X0 hown hK.1 hP (6 + (d)) (hw_at (d) (by omega)) rfl 3 (by decide) fl_149 (fun _ h9 => h9) rfl dX1_roomsBeside_41 ?_
          refine nv_to (G (88 + d)) (congrArg nI (hR.d3 (d := d) (by omega))) ?_
          refine lv_ishl hx hb dX1_roomsBeside_44 ?_
          refine nv_to (1 <<< (G (88 + d))) (nv_1shl (by omega)) ?_
          refine lv_istore (lv' := [(5, .int (nI (1 <<< (G (88 + d))))), (4, .int (nI d)), (3, .int (nI t)), (0, .ref (ad 0)), (1, .int (nI z)), (2, .int x)]) hx hb dX1_roomsBeside_45 hl (by decide) rfl (fun ls hl => ?_)
          refine lv_iconst (v := nI 1) hx hb dX1_roomsBeside_47 (by decide) ?_
          refine lv_aload_n hx hb dX1_roomsBeside_48 rfl (lv_at hl 3 rfl) ?_
          refine va_get (D := D) (ci := 3) (v := .ref (ad 1)) (C := RX1) (T := TX1) (N := 12) hx hb hts in_X1 hown hK.1 hP 0 rfl rfl 0 (by decide) fl_11 (fun _ h9 => h9) rfl dX1_roomsBeside_49 ?_
          refine lv_iload hx hb dX1_roomsBeside_52 (lv_at hl 1 rfl) ?_
          refine nv_aldq (i := d) hx hb hK.1 hP 1 2 rfl rfl (by omega) (by decide) dX1_roomsBeside_54 ?_
          refine va_get (D := D) (ci := 2) (v := .int (nI (hs_d u (d) 4))) (C := RX0) (T := TX0) (N := 10) hx hb hts in_X0 hown hK.1 hP (6 + (d)) (hw_at (d) (by omega)) rfl 4 (by decide) fl_152 (fun _ h9 => h9) rfl dX1_roomsBeside_55 ?_
          refine nv_to (G (96 + d)) (congrArg nI (hR.d4 (d := d) (by omega))) ?_
          refine lv_ishl hx hb dX1_roomsBeside_58 ?_
          refine nv_to (1 <<< (G (96 + d))) (nv_1shl (by omega)) ?_
          refine lv_istore (lv' := [(6, .int (nI (1 <<< (G (96 + d))))), (5, .int (nI (1 <<< (G (88 + d))))), (4, .int (nI d)), (3, .int (nI t)), (0, .ref (ad 0)), (1, .int (nI z)), (2, .int x)]) hx hb dX1_roomsBeside_59 hl (by decide) rfl (fun ls hl => ?_)
          refine lv_iload_n hx hb dX1_roomsBeside_61 rfl (lv_at hl 3 rfl) ?_
          refine lv_iload_n hx hb dX1_roomsBeside_62 rfl (lv_at hl 5 rfl) ?_
          refine lv_iload hx hb dX1_roomsBeside_63 (lv_at hl 1 rfl) ?_
          refine lv_iand hx hb dX1_roomsBeside_65 ?_
          refine nv_to (z &&& (1 <<< (G (88 + d)))) (nb_and _ _) ?_
          refine nv_jn (α := Nat) (fun r => W p0 l e0 ({ frames := 0, cells := 0, slots := 0, locals := 0 }) s m0 args below meth c0 s.heap [] 0 0 Q (F0 m0 75 ls (.int (nI r) :: [.int (nI t)]))) ((if z &&& (1 <<< (G (88 + d))) = 0 then 0 else 1 <<< (G (96 + d)))) (fun r er => ?_) (fun hJ => ?_)
          · subst er
            refine nv_to ((z >>> G (88 + d) &&& 1) <<< G (96 + d)) (congrArg nI (bit_to _ _ _)) ?_
            refine lv_ior hx hb dX1_roomsBeside_75 ?_
            refine nv_to (t ||| ((z >>> G (88 + d) &&& 1) <<< G (96 + d))) (nb_or _ _) ?_
            refine lv_istore_n (lv' := [(3, .int (nI (t ||| ((z >>> G (88 + d) &&& 1) <<< G (96 + d))))), (6, .int (nI (1 <<< (G (96 + d))))), (5, .int (nI (1 <<< (G (88 + d))))), (4, .int (nI d)), (0, .ref (ad 0)), (1, .int (nI z)), (2, .int x)]) hx hb dX1_roomsBeside_76 rfl hl (by decide) rfl (fun ls hl => ?_)
            refine lv_iload_n hx hb dX1_roomsBeside_77 rfl (lv_at hl 0 rfl) ?_
            refine lv_iload_n hx hb dX1_roomsBeside_78 rfl (lv_at hl 5 rfl) ?_
            refine lv_iload hx hb dX1_roomsBeside_79 (lv_at hl 1 rfl) ?_
            refine lv_iand hx hb dX1_roomsBeside_81 ?_
            refine nv_to (z &&& (1 <<< (G (96 + d)))) (nb_and _ _) ?_
            refine nv_jn (α := Nat) (fun r => W p0 l e0 ({ frames := 0, cells := 0, slots := 0, locals := 0 }) s m0 args below meth c0 s.heap [] 0 0 Q (F0 m0 91 ls (.int (nI r) :: [.int (nI (t ||| ((z >>> G (88 + d) &&& 1) <<< G (96 + d))))]))) ((if z &&& (1 <<< (G (96 + d))) = 0 then 0 else 1 <<< (G (88 + d)))) (fun r er => ?_) (fun hJ => ?_)
            · subst er
              refine nv_to ((z >>> G (96 + d) &&& 1) <<< G (88 + d)) (congrArg nI (bit_to _ _ _)) ?_
              refine lv_ior hx hb dX1_roomsBeside_91 ?_
              refine nv_to ((t ||| ((z >>> G (88 + d) &&& 1) <<< G (96 + d))) ||| ((z >>> G (96 + d) &&& 1) <<< G (88 + d))) (nb_or _ _) ?_
              refine lv_istore_n (lv' := [(3, .int (nI ((t ||| ((z >>> G (88 + d) &&& 1) <<< G (96 + d))) ||| ((z >>> G (96 + d) &&& 1) <<< G (88 + d))))), (6, .int (nI (1 <<< (G (96 + d))))), (5, .int (nI (1 <<< (G (88 + d))))), (4, .int (nI d)), (0, .ref (ad 0)), (1, .int (nI z)), (2, .int x)]) hx hb dX1_roomsBeside_92 rfl hl (by decide) rfl (fun ls hl => ?_)
              refine lv_iinc (v := nI (d + 1)) (lv' := [(4, .int (nI (d + 1))), (3, .int (nI ((t ||| ((z >>> G (88 + d) &&& 1) <<< G (96 + d))) ||| ((z >>> G (96 + d) &&& 1) <<< G (88 + d))))), (6, .int (nI (1 <<< (G (96 + d))))), (5, .int (nI (1 <<< (G (88 + d))))), (0, .ref (ad 0)), (1, .int (nI z)), (2, .int x)]) hx hb dX1_roomsBeside_93 hl (k := 3) rfl (by show nI _ + Int32.ofInt 1 = _; exact nI_add _ 1) (by decide) rfl (fun ls hl => ?_)
              refine lv_goto (tgt := 5) hx hb dX1_roomsBeside_96 (by decide) ?_
              exact ih5  (d + 1) ((t ||| ((z >>> G (88 + d) &&& 1) <<< G (96 + d))) ||| ((z >>> G (96 + d) &&& 1) <<< G (88 + d))) ((by omega)) ((by subst ht; exact (if_pos (Or.inl (by omega))).symm)) (by omega) ls (lv_sub hl [0, 1, 4, 5, 6] rfl)
            · refine nv_if_eq (tgt := 90) hx hb dX1_roomsBeside_82 (by decide) (by exact and_lt6 (shl1_lt (by omega))) (fun c5 => ?_) (fun c5 => ?_)
              · refine lv_iconst (v := nI 0) hx hb dX1_roomsBeside_90 (by decide) ?_
                exact hJ _ (if_pos c5).symm
              · refine lv_iload hx hb dX1_roomsBeside_85 (lv_at hl 2 rfl) ?_
                refine lv_goto (tgt := 91) hx hb dX1_roomsBeside_87 (by decide) ?_
                exact hJ _ (if_neg c5).symm
          · refine nv_if_eq (tgt := 74) hx hb dX1_roomsBeside_66 (by decide) (by exact and_lt6 (shl1_lt (by omega))) (fun c4 => ?_) (fun c4 => ?_)
            · refine lv_iconst (v := nI 0) hx hb dX1_roomsBeside_74 (by decide) ?_
              exact hJ _ (if_pos c4).symm
            · refine lv_iload hx hb dX1_roomsBeside_69 (lv_at hl 0 rfl) ?_
              refine lv_goto (tgt := 75) hx hb dX1_roomsBeside_71 (by decide) ?_
              exact hJ _ (if_neg c4).symm
        · refine lv_iload hx hb dX1_roomsBeside_27 (lv_at hl 0 rfl) ?_
          refine lv_iload_n hx hb dX1_roomsBeside_29 rfl (lv_at hl 4 rfl) ?_
          refine lv_icmp_ne (tgt := 93) hx hb dX1_roomsBeside_30 (by decide) (fun c6 => ?_) (fun c6 => ?_)
          · refine lv_iinc (v := nI (d + 1)) (lv' := [(4, .int (nI (d + 1))), (3, .int (nI t)), (0, .ref (ad 0)), (1, .int (nI z)), (2, .int x)]) hx hb dX1_roomsBeside_93 hl (k := 0) rfl (by show nI _ + Int32.ofInt 1 = _; exact nI_add _ 1) (by decide) rfl (fun ls hl => ?_)
            refine lv_goto (tgt := 5) hx hb dX1_roomsBeside_96 (by decide) ?_
            exact ih5  (d + 1) t ((by omega)) ((by subst ht; exact (if_neg (fun q => q.elim (fun z => by omega) c6)).symm)) (by omega) ls (lv_sub hl [0, 1, 2, 3, 4] rfl)
          · refine lv_iconst (v := nI 1) hx hb dX1_roomsBeside_33 (by decide) ?_
            refine lv_aload_n hx hb dX1_roomsBeside_34 rfl (lv_at hl 2 rfl) ?_
            refine va_get (D := D) (ci := 3) (v := .ref (ad 1)) (C := RX1) (T := TX1) (N := 12) hx hb hts in_X1 hown hK.1 hP 0 rfl rfl 0 (by decide) fl_11 (fun _ h9 => h9) rfl dX1_roomsBeside_35 ?_
            refine lv_iload hx hb dX1_roomsBeside_38 (lv_at hl 0 rfl) ?_
            refine nv_aldq (i := d) hx hb hK.1 hP 1 2 rfl rfl (by omega) (by decide) dX1_roomsBeside_40 ?_
            refine va_get (D := D) (ci := 2) (v := .int (nI (hs_d u (d) 3))) (C := RX0) (T := TX0) (N := 10) hx hb hts in_X0 hown hK.1 hP (6 + (d)) (hw_at (d) (by omega)) rfl 3 (by decide) fl_149 (fun _ h9 => h9) rfl dX1_roomsBeside_41 ?_
            refine nv_to (G (88 + d)) (congrArg nI (hR.d3 (d := d) (by omega))) ?_
            refine lv_ishl hx hb dX1_roomsBeside_44 ?_
            refine nv_to (1 <<< (G (88 + d))) (nv_1shl (by omega)) ?_
            refine lv_istore (lv' := [(5, .int (nI (1 <<< (G (88 + d))))), (4, .int (nI d)), (3, .int (nI t)), (0, .ref (ad 0)), (1, .int (nI z)), (2, .int x)]) hx hb dX1_roomsBeside_45 hl (by decide) rfl (fun ls hl => ?_)
            refine lv_iconst (v := nI 1) hx hb dX1_roomsBeside_47 (by decide) ?_
            refine lv_aload_n hx hb dX1_roomsBeside_48 rfl (lv_at hl 3 rfl) ?_
            refine va_get (D := D) (ci := 3) (v := .ref (ad 1)) (C := RX1) (T := TX1) (N := 12) hx hb hts in_X1 hown hK.1 hP 0 rfl rfl 0 (by decide) fl_11 (fun _ h9 => h9) rfl dX1_roomsBeside_49 ?_
            refine lv_iload hx hb dX1_roomsBeside_52 (lv_at hl 1 rfl) ?_
            refine nv_aldq (i := d) hx hb hK.1 hP 1 2 rfl rfl (by omega) (by decide) dX1_roomsBeside_54 ?_
            refine va_get (D := D) (ci := 2) (v := .int (nI (hs_d u (d) 4))) (C := RX0) (T := TX0) (N := 10) hx hb hts in_X0 hown hK.1 hP (6 + (d)) (hw_at (d) (by omega)) rfl 4 (by decide) fl_152 (fun _ h9 => h9) rfl dX1_roomsBeside_55 ?_
            refine nv_to (G (96 + d)) (congrArg nI (hR.d4 (d := d) (by omega))) ?_
            refine lv_ishl hx hb dX1_roomsBeside_58 ?_
            refine nv_to (1 <<< (G (96 + d))) (nv_1shl (by omega)) ?_
            refine lv_istore (lv' := [(6, .int (nI (1 <<< (G (96 + d))))), (5, .int (nI (1 <<< (G (88 + d))))), (4, .int (nI d)), (3, .int (nI t)), (0, .ref (ad 0)), (1, .int (nI z)), (2, .int x)]) hx hb dX1_roomsBeside_59 hl (by decide) rfl (fun ls hl => ?_)
            refine lv_iload_n hx hb dX1_roomsBeside_61 rfl (lv_at hl 3 rfl) ?_
            refine lv_iload_n hx hb dX1_roomsBeside_62 rfl (lv_at hl 5 rfl) ?_
            refine lv_iload hx hb dX1_roomsBeside_63 (lv_at hl 1 rfl) ?_
            refine lv_iand hx hb dX1_roomsBeside_65 ?_
            refine nv_to (z &&& (1 <<< (G (88 + d)))) (nb_and _ _) ?_
            refine nv_jn (α := Nat) (fun r => W p0 l e0 ({ frames := 0, cells := 0, slots := 0, locals := 0 }) s m0 args below meth c0 s.heap [] 0 0 Q (F0 m0 75 ls (.int (nI r) :: [.int (nI t)]))) ((if z &&& (1 <<< (G (88 + d))) = 0 then 0 else 1 <<< (G (96 + d)))) (fun r er => ?_) (fun hJ => ?_)
            · subst er
              refine nv_to ((z >>> G (88 + d) &&& 1) <<< G (96 + d)) (congrArg nI (bit_to _ _ _)) ?_
              refine lv_ior hx hb dX1_roomsBeside_75 ?_
              refine nv_to (t ||| ((z >>> G (88 + d) &&& 1) <<< G (96 + d))) (nb_or _ _) ?_
              refine lv_istore_n (lv' := [(3, .int (nI (t ||| ((z >>> G (88 + d) &&& 1) <<< G (96 + d))))), (6, .int (nI (1 <<< (G (96 + d))))), (5, .int (nI (1 <<< (G (88 + d))))), (4, .int (nI d)), (0, .ref (ad 0)), (1, .int (nI z)), (2, .int x)]) hx hb dX1_roomsBeside_76 rfl hl (by decide) rfl (fun ls hl => ?_)
              refine lv_iload_n hx hb dX1_roomsBeside_77 rfl (lv_at hl 0 rfl) ?_
              refine lv_iload_n hx hb dX1_roomsBeside_78 rfl (lv_at hl 5 rfl) ?_
              refine lv_iload hx hb dX1_roomsBeside_79 (lv_at hl 1 rfl) ?_
              refine lv_iand hx hb dX1_roomsBeside_81 ?_
              refine nv_to (z &&& (1 <<< (G (96 + d)))) (nb_and _ _) ?_
              refine nv_jn (α := Nat) (fun r => W p0 l e0 ({ frames := 0, cells := 0, slots := 0, locals := 0 }) s m0 args below meth c0 s.heap [] 0 0 Q (F0 m0 91 ls (.int (nI r) :: [.int (nI (t ||| ((z >>> G (88 + d) &&& 1) <<< G (96 + d))))]))) ((if z &&& (1 <<< (G (96 + d))) = 0 then 0 else 1 <<< (G (88 + d)))) (fun r er => ?_) (fun hJ => ?_)
              · subst er
                refine nv_to ((z >>> G (96 + d) &&& 1) <<< G (88 + d)) (congrArg nI (bit_to _ _ _)) ?_
                refine lv_ior hx hb dX1_roomsBeside_91 ?_
                refine nv_to ((t ||| ((z >>> G (88 + d) &&& 1) <<< G (96 + d))) ||| ((z >>> G (96 + d) &&& 1) <<< G (88 + d))) (nb_or _ _) ?_
                refine lv_istore_n (lv' := [(3, .int (nI ((t ||| ((z >>> G (88 + d) &&& 1) <<< G (96 + d))) ||| ((z >>> G (96 + d) &&& 1) <<< G (88 + d))))), (6, .int (nI (1 <<< (G (96 + d))))), (5, .int (nI (1 <<< (G (88 + d))))), (4, .int (nI d)), (0, .ref (ad 0)), (1, .int (nI z)), (2, .int x)]) hx hb dX1_roomsBeside_92 rfl hl (by decide) rfl (fun ls hl => ?_)
                refine lv_iinc (v := nI (d + 1)) (lv' := [(4, .int (nI (d + 1))), (3, .int (nI ((t ||| ((z >>> G (88 + d) &&& 1) <<< G (96 + d))) ||| ((z >>> G (96 + d) &&& 1) <<< G (88 + d))))), (6, .int (nI (1 <<< (G (96 + d))))), (5, .int (nI (1 <<< (G (88 + d))))), (0, .ref (ad 0)), (1, .int (nI z)), (2, .int x)]) hx hb dX1_roomsBeside_93 hl (k := 3) rfl (by show nI _ + Int32.ofInt 1 = _; exact nI_add _ 1) (by decide) rfl (fun ls hl => ?_)
                refine lv_goto (tgt := 5) hx hb dX1_roomsBeside_96 (by decide) ?_
                exact ih5  (d + 1) ((t ||| ((z >>> G (88 + d) &&& 1) <<< G (96 + d))) ||| ((z >>> G (96 + d) &&& 1) <<< G (88 + d))) ((by omega)) ((by subst ht; exact (if_pos (Or.inr c6)).symm)) (by omega) ls (lv_sub hl [0, 1, 4, 5, 6] rfl)
              · refine nv_if_eq (tgt := 90) hx hb dX1_roomsBeside_82 (by decide) (by exact and_lt6 (shl1_lt (by omega))) (fun c8 => ?_) (fun c8 => ?_)
                · refine lv_iconst (v := nI 0) hx hb dX1_roomsBeside_90 (by decide) ?_
                  exact hJ _ (if_pos c8).symm
                · refine lv_iload hx hb dX1_roomsBeside_85 (lv_at hl 2 rfl) ?_
                  refine lv_goto (tgt := 91) hx hb dX1_roomsBeside_87 (by decide) ?_
                  exact hJ _ (if_neg c8).symm
            · refine nv_if_eq (tgt := 74) hx hb dX1_roomsBeside_66 (by decide) (by exact and_lt6 (shl1_lt (by omega))) (fun c7 => ?_) (fun c7 => ?_)
              · refine lv_iconst (v := nI 0) hx hb dX1_roomsBeside_74 (by decide) ?_
                exact hJ _ (if_pos c7).symm
              · refine lv_iload hx hb dX1_roomsBeside_69 (lv_at hl 0 rfl) ?_
                refine lv_goto (tgt := 75) hx hb dX1_roomsBeside_71 (by decide) ?_
                exact hJ _ (if_neg c7).symm
  exact hloop1 _ 0 0 ((Nat.zero_le _)) (rfl) (Nat.lt_succ_self _) ls (lv_sub hl [0, 1, 2, 3, 4] rfl)

theorem gLk_lo {G : Nat → Nat} {a n i : Nat} : ∀ j, j ≤ i + 1 → gLk G a n i j = 0
  | 0, _ => rfl
  | j + 1, h => by
    unfold gLk
    rw [gLk_lo j (by omega), bI_f (by omega)]
