theorem cpy_zero (F T : Nat → Nat) (sp dp : Nat) : va_cpy F T sp dp 0 = T := by
  funext j
  unfold va_cpy
  rw [if_neg (by omega)]
theorem cpy_succ (F T : Nat → Nat) (sp dp k : Nat) : va_cpy F T sp dp (k + 1) = va_up (va_cpy F T sp dp k) (dp + k) (F (sp + k)) := by
  funext j
  unfold va_cpy va_up
  by_cases h1 : j = dp + k
  · subst h1
    rw [if_pos (by omega), if_pos rfl, show sp + (dp + k - dp) = sp + k by omega]
  · rw [if_neg h1]
    by_cases h2 : dp ≤ j ∧ j < dp + k
    · rw [if_pos (by omega)]; exact (if_pos h2).symm
    · rw [if_neg (by omega)]; exact (if_neg h2).symm
theorem lst_set_self {α : Type} {ws : List α} {q : Nat} {x : α} (h : ws[q]? = some x) : ws.set q x = ws := by
  apply List.ext_getElem?
  intro i
  by_cases e : i = q
  · subst e; rw [List.getElem?_set_self (List.getElem?_eq_some_iff.mp h).1, h]
  · rw [List.getElem?_set_ne (Ne.symm e)]

set_option maxHeartbeats 4000000 in
set_option maxRecDepth 100000 in
theorem c_X7_copy (l : Launch) {D : va_G} {cI cC : ClassId} {A : Nat → Prop} (ws : va_W) (q1 q2 a b n1 n2 : Nat) (F T : Nat → Nat) (hD : ∀ X : Nat → Nat, va_D A (ws.set q2 (b, .inl (cI, n2, .inl (gN X))))) (h1 : ws[q1]? = some (a, .inl (cI, n1, .inl (gN F)))) (h2 : ws[q2]? = some (b, .inl (cI, n2, .inl (gN T)))) (hne : q2 ≠ q1) (sp dp : Nat) (hs : sp + 128 ≤ n1) (hd : dp + 128 ≤ n2) (hn1 : n1 < 2 ^ 20) (hn2 : n2 < 2 ^ 20) :
    Met l yX7_copy wsX7_copy ({ frames := 0, cells := 0, slots := 0, locals := 0 }) (va_Pc [.ref a, .int (nI sp), .ref b, .int (nI dp)] (sPre D [(cI, .int), (cC, .char)] [] (fun H => va_P D vwCl ws H))) (mQv D (ws.set q2 (b, .inl (cI, n2, .inl (gN (va_cpy F T sp dp 128))))) A) 0 0 A := by
  refine nv_met (cc := cX7_copy) (maxL := 5) (ret := none) (by decide) rfl (Nat.le_of_ble_eq_true rfl) ?_
  intro p e s m args below meth c Q hq hargs hnA hpre ls hl
  obtain ⟨hx, hb, hr, hts, hown, hlocks, hml⟩ := hnA
  obtain ⟨hP, hK⟩ := hpre
  have hl : lv_has ls 5 [(0, .ref a), (1, .int (nI sp)), (2, .ref b), (3, .int (nI dp))] := hl
  have hS : va_S A s.heap s.heap [] := va_S.rf
  refine lv_iconst (v := nI 0) hx hb dX7_copy_0 (by decide) ?_
  refine lv_istore (lv' := [(4, .int (nI 0)), (0, .ref a), (1, .int (nI sp)), (2, .ref b), (3, .int (nI dp))]) hx hb dX7_copy_1 hl (by decide) rfl (fun ls hl => ?_)
  have key : ∀ (n : Nat) (k : Nat), k ≤ 128 → 128 - k < n → ∀ (H : Heap) (locs : List Loc), va_P D vwCl (ws.set q2 (b, .inl (cI, n2, .inl (gN (va_cpy F T sp dp k))))) H → va_S A s.heap H locs → ∀ (ls : Array Slot), lv_has ls 5 [(4, .int (nI k)), (0, .ref a), (1, .int (nI sp)), (2, .ref b), (3, .int (nI dp))] → W p l e ({ frames := 0, cells := 0, slots := 0, locals := 0 }) s m args below meth c H locs 0 0 Q (F0 m 3 ls []) := by
    intro n
    induction n with
    | zero => intro k _ h; exact absurd h (Nat.not_lt_zero _)
    | succ n ih =>
      intro k hk hn H locs hP hS ls hl
      have g1 : (ws.set q2 (b, .inl (cI, n2, .inl (gN (va_cpy F T sp dp k)))))[q1]? = some (a, .inl (cI, n1, .inl (gN F))) := by rw [List.getElem?_set_ne hne]; exact h1
      have hq2 := (List.getElem?_eq_some_iff.mp h2).1
      have g2 : (ws.set q2 (b, .inl (cI, n2, .inl (gN (va_cpy F T sp dp k)))))[q2]? = some (b, .inl (cI, n2, .inl (gN (va_cpy F T sp dp k)))) := List.getElem?_set_self hq2
      refine lv_iload hx hb dX7_copy_3 (lv_at hl 0 rfl) ?_
      refine lv_sipush (v := nI 128) hx hb dX7_copy_5 (by decide) ?_
      refine nv_icmp_ge (tgt := 29) hx hb dX7_copy_8 (by decide) (by omega) (by omega) (fun c1 => ?_) (fun c1 => ?_)
      · exact nv_retMv hq hx hb hr hlocks hS hP (by rw [show k = 128 by omega]) dX7_copy_29
      · refine lv_aload_n hx hb dX7_copy_11 rfl (lv_at hl 3 rfl) ?_
        refine lv_iload_n hx hb dX7_copy_12 rfl (lv_at hl 4 rfl) ?_
        refine lv_iload hx hb dX7_copy_13 (lv_at hl 0 rfl) ?_
        refine nv_iadd hx hb dX7_copy_15 ?_
        refine lv_aload_n hx hb dX7_copy_16 rfl (lv_at hl 1 rfl) ?_
        refine lv_iload_n hx hb dX7_copy_17 rfl (lv_at hl 2 rfl) ?_
        refine lv_iload hx hb dX7_copy_18 (lv_at hl 0 rfl) ?_
        refine nv_iadd hx hb dX7_copy_20 ?_
        refine nv_gald (i := sp + k) hx hb hK.1 hP q1 0 g1 rfl (by omega) (by omega) dX7_copy_21 ?_
        refine nv_gast (i := dp + k) (v := F (sp + k)) hx hb hK.1 hP (hD _) hS q2 0 g2 rfl (by omega) (by omega) dX7_copy_22 (fun H locs hP hS => ?_)
        refine lv_iinc (v := nI (k + 1)) (lv' := [(4, .int (nI (k + 1))), (0, .ref a), (1, .int (nI sp)), (2, .ref b), (3, .int (nI dp))]) hx hb dX7_copy_23 hl (k := 0) rfl (by show nI _ + Int32.ofInt 1 = _; exact nI_add _ 1) (by decide) rfl (fun ls hl => ?_)
        refine lv_goto (tgt := 3) hx hb dX7_copy_26 (by decide) ?_
        refine ih (k + 1) (by omega) (by omega) H locs ?_ hS ls hl
        rw [List.set_set] at hP
        rw [show va_cpy F T sp dp (k + 1) = va_up (va_cpy F T sp dp k) (dp + k) (F (sp + k)) from cpy_succ F T sp dp k]
        exact hP
  exact key 129 0 (by omega) (by omega) _ _ (by
    rw [show va_cpy F T sp dp 0 = T from cpy_zero F T sp dp, lst_set_self h2]; exact hP) hS ls hl

set_option maxHeartbeats 1000000 in
set_option maxRecDepth 100000 in
theorem c_X7_looksBack (l : Launch) {D : va_G} {cI cC : ClassId} {h aG aB aH aS aI aL aT : Nat} {G B Hi Sv In Le : Nat → Nat} {To : Nat → Int32} {ch hs ty wy ln th sp iw : Nat} {ea ra wd : Int32} {A : Nat → Prop} (hD : ∀ (G B Hi Sv In Le : Nat → Nat) (To : Nat → Int32) (fs : List Value), va_D A [(h, .inr (9, fs)), (aG, .inl (cI, 128, .inl (gN G))), (aB, .inl (cI, 128, .inl (gN B))), (aH, .inl (cI, 1024, .inl (gN Hi))), (aS, .inl (cI, 128, .inl (gN Sv))), (aI, .inl (cI, 60, .inl (gN In))), (aL, .inl (cC, 40, .inl (gN Le))), (aT, .inl (cI, 360, .inl To))])  : Met l yX7_looksBack wsX7_looksBack ({ frames := 1, cells := 0, slots := 0, locals := 24 }) (va_Pc [.ref h] (sPre D [(cI, .int), (cC, .char)] [] (fun H => va_P D vwCl [(h, .inr (9, [.ref aG, .ref aB, .ref aH, .int (nI ch), .ref aS, .int (nI hs), .ref aI, .int (nI ty), .int ea, .int ra, .int (nI wy), .int wd, .ref aL, .int (nI ln), .int (nI th), .int (nI sp), .int (nI iw), .ref aT])), (aG, .inl (cI, 128, .inl (gN G))), (aB, .inl (cI, 128, .inl (gN B))), (aH, .inl (cI, 1024, .inl (gN Hi))), (aS, .inl (cI, 128, .inl (gN Sv))), (aI, .inl (cI, 60, .inl (gN In))), (aL, .inl (cC, 40, .inl (gN Le))), (aT, .inl (cI, 360, .inl To))] H))) (mQv D [(h, .inr (9, [.ref aG, .ref aB, .ref aH, .int (nI ch), .ref aS, .int (nI hs), .ref aI, .int (nI ty), .int ea, .int ra, .int (nI wy), .int wd, .ref aL, .int (nI ln), .int (nI th), .int (nI sp), .int (nI iw), .ref aT])), (aG, .inl (cI, 128, .inl (gN G))), (aB, .inl (cI, 128, .inl (gN G))), (aH, .inl (cI, 1024, .inl (gN Hi))), (aS, .inl (cI, 128, .inl (gN Sv))), (aI, .inl (cI, 60, .inl (gN In))), (aL, .inl (cC, 40, .inl (gN Le))), (aT, .inl (cI, 360, .inl To))] A) 0 0 A := by
  refine nv_met (cc := cX7_looksBack) (maxL := 1) (ret := none) (by decide) rfl (Nat.le_of_ble_eq_true rfl) ?_
  intro p0 e0 s m0 args below meth c0 Q hq hargs hnA hpre ls hl
  obtain ⟨hx, hb, hr, hts, hown, hlocks, hml⟩ := hnA
  obtain ⟨hP, hK⟩ := hpre
  have hown : s.vm.findClass RX7 = some m0.cls := hown
  have hP : va_P D vwCl [(h, .inr (9, [.ref aG, .ref aB, .ref aH, .int (nI ch), .ref aS, .int (nI hs), .ref aI, .int (nI ty), .int ea, .int ra, .int (nI wy), .int wd, .ref aL, .int (nI ln), .int (nI th), .int (nI sp), .int (nI iw), .ref aT])), (aG, .inl (cI, 128, .inl (gN G))), (aB, .inl (cI, 128, .inl (gN B))), (aH, .inl (cI, 1024, .inl (gN Hi))), (aS, .inl (cI, 128, .inl (gN Sv))), (aI, .inl (cI, 60, .inl (gN In))), (aL, .inl (cC, 40, .inl (gN Le))), (aT, .inl (cI, 360, .inl To))] s.heap := hP
  have hl : lv_has ls 1 [(0, .ref h)] := hl
  have hS : va_S A s.heap s.heap [] := va_S.rf
  have in_X7 : ∀ w ∈ wsX70, w ∈ wsX7_looksBack := by decide +kernel
  have fl_7 := hts (.fieldLink RX7 7 "DoorDialectModel" "g" "[I") (by decide +kernel)
  have fl_13 := hts (.fieldLink RX7 13 "DoorDialectModel" "before" "[I") (by decide +kernel)
  refine lv_aload_n hx hb dX7_looksBack_0 rfl (lv_at hl 0 rfl) ?_
  refine va_get (D := D) (ci := 9) (v := .ref aG) (C := RX7) (T := TX7) (N := 18) hx hb hts in_X7 hown hK.1 hP 0 rfl rfl 0 (by decide) fl_7 (fun _ h9 => h9) rfl dX7_looksBack_1 ?_
  refine lv_iconst (v := nI 0) hx hb dX7_looksBack_4 (by decide) ?_
  refine lv_aload_n hx hb dX7_looksBack_5 rfl (lv_at hl 0 rfl) ?_
  refine va_get (D := D) (ci := 9) (v := .ref aB) (C := RX7) (T := TX7) (N := 18) hx hb hts in_X7 hown hK.1 hP 0 rfl rfl 1 (by decide) fl_13 (fun _ h9 => h9) rfl dX7_looksBack_6 ?_
  refine lv_iconst (v := nI 0) hx hb dX7_looksBack_9 (by decide) ?_
  refine nv_kMv (va_runS (As := [.ref aG, .int (nI 0), .ref aB, .int (nI 0)]) (rest := []) ⟨hx, hb, hml, hown, hts⟩ (c_X7_copy (cC := cC) l [(h, .inr (9, [.ref aG, .ref aB, .ref aH, .int (nI ch), .ref aS, .int (nI hs), .ref aI, .int (nI ty), .int ea, .int ra, .int (nI wy), .int wd, .ref aL, .int (nI ln), .int (nI th), .int (nI sp), .int (nI iw), .ref aT])), (aG, .inl (cI, 128, .inl (gN G))), (aB, .inl (cI, 128, .inl (gN B))), (aH, .inl (cI, 1024, .inl (gN Hi))), (aS, .inl (cI, 128, .inl (gN Sv))), (aI, .inl (cI, 60, .inl (gN In))), (aL, .inl (cC, 40, .inl (gN Le))), (aT, .inl (cI, 360, .inl To))] 1 2 aG aB 128 128 G B (fun X => hD _ _ _ _ _ _ _ _) rfl rfl (by decide) 0 0 (by omega) (by omega) (by decide) (by decide)) (va_cwS 4 hts gX7_looksBack_X7_copy rfl rfl rfl (by decide +kernel) ⟨Nat.le_of_ble_eq_true rfl, Nat.le_of_ble_eq_true rfl⟩) (nv_pS hK hP) rfl rfl hl.1 rfl (lv_room (Nat.le_of_ble_eq_true rfl)) dX7_looksBack_10 ⟨Nat.zero_le _, Nat.zero_le _⟩) hS (fun H locs hP hS => ?_)
  have hP : va_P D vwCl [(h, .inr (9, [.ref aG, .ref aB, .ref aH, .int (nI ch), .ref aS, .int (nI hs), .ref aI, .int (nI ty), .int ea, .int ra, .int (nI wy), .int wd, .ref aL, .int (nI ln), .int (nI th), .int (nI sp), .int (nI iw), .ref aT])), (aG, .inl (cI, 128, .inl (gN G))), (aB, .inl (cI, 128, .inl (gN ((va_cpy G B 0 0 128))))), (aH, .inl (cI, 1024, .inl (gN Hi))), (aS, .inl (cI, 128, .inl (gN Sv))), (aI, .inl (cI, 60, .inl (gN In))), (aL, .inl (cC, 40, .inl (gN Le))), (aT, .inl (cI, 360, .inl To))] H := hP
  have hP := va_P_arr hP 2 (gN G) rfl (fun k hk => congrArg nI (by unfold va_cpy; rw [if_pos (by omega)]; congr 1; omega))
  have hP : va_P D vwCl [(h, .inr (9, [.ref aG, .ref aB, .ref aH, .int (nI ch), .ref aS, .int (nI hs), .ref aI, .int (nI ty), .int ea, .int ra, .int (nI wy), .int wd, .ref aL, .int (nI ln), .int (nI th), .int (nI sp), .int (nI iw), .ref aT])), (aG, .inl (cI, 128, .inl (gN G))), (aB, .inl (cI, 128, .inl (gN G))), (aH, .inl (cI, 1024, .inl (gN Hi))), (aS, .inl (cI, 128, .inl (gN Sv))), (aI, .inl (cI, 60, .inl (gN In))), (aL, .inl (cC, 40, .inl (gN Le))), (aT, .inl (cI, 360, .inl To))] H := hP
  exact nv_retMv hq hx hb hr hlocks hS hP (rfl) dX7_looksBack_13

/-- the history with one more: the oldest of eight goes -/
def hPush (F B : Nat → Nat) (n : Nat) : Nat → Nat := if n = 8 then va_cpy B (fun k => if k < 896 then F (k + 128) else F k) 0 ((8 - 1) * 128) 128 else va_cpy B F 0 (n * 128) 128
def shF (F : Nat → Nat) (n : Nat) : Nat → Nat := fun k => if k < n then F (k + 128) else F k
theorem shF_up (F : Nat → Nat) (n : Nat) : va_up (shF F n) n (shF F n (n + 128)) = shF F (n + 1) := by
  funext j
  unfold va_up shF
  by_cases h : j = n
  · subst h; rw [if_pos rfl, if_neg (by omega), if_pos (by omega)]
  · rw [if_neg h]
    by_cases h2 : j < n
    · rw [if_pos h2, if_pos (by omega)]
    · rw [if_neg h2, if_neg (by omega)]

set_option maxHeartbeats 1000000 in
set_option maxRecDepth 100000 in
theorem c_X7_kept (l : Launch) {D : va_G} {cI cC : ClassId} {h aG aB aH aS aI aL aT : Nat} {G B Hi Sv In Le : Nat → Nat} {To : Nat → Int32} {ch hs ty wy ln th sp iw : Nat} {ea ra wd : Int32} {A : Nat → Prop} (hD : ∀ (G B Hi Sv In Le : Nat → Nat) (To : Nat → Int32) (fs : List Value), va_D A [(h, .inr (9, fs)), (aG, .inl (cI, 128, .inl (gN G))), (aB, .inl (cI, 128, .inl (gN B))), (aH, .inl (cI, 1024, .inl (gN Hi))), (aS, .inl (cI, 128, .inl (gN Sv))), (aI, .inl (cI, 60, .inl (gN In))), (aL, .inl (cC, 40, .inl (gN Le))), (aT, .inl (cI, 360, .inl To))]) (v : Int32) (hch : ch ≤ 8) (hth : th < 2 ^ 31) : Met l yX7_kept wsX7_kept ({ frames := 1, cells := 0, slots := 0, locals := 24 }) (va_Pc [.ref h, .int v] (sPre D [(cI, .int), (cC, .char)] [] (fun H => va_P D vwCl [(h, .inr (9, [.ref aG, .ref aB, .ref aH, .int (nI ch), .ref aS, .int (nI hs), .ref aI, .int (nI ty), .int ea, .int ra, .int (nI wy), .int wd, .ref aL, .int (nI ln), .int (nI th), .int (nI sp), .int (nI iw), .ref aT])), (aG, .inl (cI, 128, .inl (gN G))), (aB, .inl (cI, 128, .inl (gN B))), (aH, .inl (cI, 1024, .inl (gN Hi))), (aS, .inl (cI, 128, .inl (gN Sv))), (aI, .inl (cI, 60, .inl (gN In))), (aL, .inl (cC, 40, .inl (gN Le))), (aT, .inl (cI, 360, .inl To))] H))) (mQ D ((if th = 0 then v else 0)) [(h, .inr (9, [.ref aG, .ref aB, .ref aH, .int (nI ((if th = 0 then (if ch = 8 then 8 else ch + 1) else ch))), .ref aS, .int (nI hs), .ref aI, .int (nI ty), .int ea, .int ra, .int (nI wy), .int wd, .ref aL, .int (nI ln), .int (nI th), .int (nI sp), .int (nI iw), .ref aT])), (aG, .inl (cI, 128, .inl (gN ((if th = 0 then G else B))))), (aB, .inl (cI, 128, .inl (gN B))), (aH, .inl (cI, 1024, .inl (gN ((if th = 0 then hPush Hi B ch else Hi))))), (aS, .inl (cI, 128, .inl (gN Sv))), (aI, .inl (cI, 60, .inl (gN In))), (aL, .inl (cC, 40, .inl (gN Le))), (aT, .inl (cI, 360, .inl To))] A) 0 0 A := by
  refine nv_met (cc := cX7_kept) (maxL := 3) (ret := (some .int)) (by decide) rfl (Nat.le_of_ble_eq_true rfl) ?_
  intro p0 e0 s m0 args below meth c0 Q hq hargs hnA hpre ls hl
  obtain ⟨hx, hb, hr, hts, hown, hlocks, hml⟩ := hnA
  obtain ⟨hP, hK⟩ := hpre
  have hown : s.vm.findClass RX7 = some m0.cls := hown
  have hP : va_P D vwCl [(h, .inr (9, [.ref aG, .ref aB, .ref aH, .int (nI ch), .ref aS, .int (nI hs), .ref aI, .int (nI ty), .int ea, .int ra, .int (nI wy), .int wd, .ref aL, .int (nI ln), .int (nI th), .int (nI sp), .int (nI iw), .ref aT])), (aG, .inl (cI, 128, .inl (gN G))), (aB, .inl (cI, 128, .inl (gN B))), (aH, .inl (cI, 1024, .inl (gN Hi))), (aS, .inl (cI, 128, .inl (gN Sv))), (aI, .inl (cI, 60, .inl (gN In))), (aL, .inl (cC, 40, .inl (gN Le))), (aT, .inl (cI, 360, .inl To))] s.heap := hP
  have hl : lv_has ls 3 [(0, .ref h), (1, .int v)] := hl
  have hS : va_S A s.heap s.heap [] := va_S.rf
  have in_X7 : ∀ w ∈ wsX70, w ∈ wsX7_kept := by decide +kernel
  have fl_7 := hts (.fieldLink RX7 7 "DoorDialectModel" "g" "[I") (by decide +kernel)
  have fl_13 := hts (.fieldLink RX7 13 "DoorDialectModel" "before" "[I") (by decide +kernel)
  have fl_16 := hts (.fieldLink RX7 16 "DoorDialectModel" "history" "[I") (by decide +kernel)
  have fl_42 := hts (.fieldLink RX7 42 "DoorDialectModel" "thrown" "I") (by decide +kernel)
  have fl_59 := hts (.fieldLink RX7 59 "DoorDialectModel" "changes" "I") (by decide +kernel)
  refine lv_aload_n hx hb dX7_kept_0 rfl (lv_at hl 0 rfl) ?_
  refine va_get (D := D) (ci := 9) (v := .int (nI th)) (C := RX7) (T := TX7) (N := 18) hx hb hts in_X7 hown hK.1 hP 0 rfl rfl 14 (by decide) fl_42 (fun _ h9 => h9) rfl dX7_kept_1 ?_
  refine nv_if_eq (tgt := 22) hx hb dX7_kept_4 (by decide) (by omega) (fun c1 => ?_) (fun c1 => ?_)
  · refine lv_aload_n hx hb dX7_kept_22 rfl (lv_at hl 0 rfl) ?_
    refine va_get (D := D) (ci := 9) (v := .int (nI ch)) (C := RX7) (T := TX7) (N := 18) hx hb hts in_X7 hown hK.1 hP 0 rfl rfl 3 (by decide) fl_59 (fun _ h9 => h9) rfl dX7_kept_23 ?_
    refine lv_bipush (v := nI 8) hx hb dX7_kept_26 (by decide) ?_
    refine nv_icmp_ne (tgt := 72) hx hb dX7_kept_28 (by decide) (by omega) (by omega) (fun c2 => ?_) (fun c2 => ?_)
    · refine lv_aload_n hx hb dX7_kept_72 rfl (lv_at hl 0 rfl) ?_
      refine va_get (D := D) (ci := 9) (v := .ref aB) (C := RX7) (T := TX7) (N := 18) hx hb hts in_X7 hown hK.1 hP 0 rfl rfl 1 (by decide) fl_13 (fun _ h9 => h9) rfl dX7_kept_73 ?_
      refine lv_iconst (v := nI 0) hx hb dX7_kept_76 (by decide) ?_
      refine lv_aload_n hx hb dX7_kept_77 rfl (lv_at hl 0 rfl) ?_
      refine va_get (D := D) (ci := 9) (v := .ref aH) (C := RX7) (T := TX7) (N := 18) hx hb hts in_X7 hown hK.1 hP 0 rfl rfl 2 (by decide) fl_16 (fun _ h9 => h9) rfl dX7_kept_78 ?_
      refine lv_aload_n hx hb dX7_kept_81 rfl (lv_at hl 0 rfl) ?_
      refine va_get (D := D) (ci := 9) (v := .int (nI ch)) (C := RX7) (T := TX7) (N := 18) hx hb hts in_X7 hown hK.1 hP 0 rfl rfl 3 (by decide) fl_59 (fun _ h9 => h9) rfl dX7_kept_82 ?_
      refine lv_sipush (v := nI 128) hx hb dX7_kept_85 (by decide) ?_
      refine nv_imul hx hb dX7_kept_88 ?_
      refine nv_kMv (va_runS (As := [.ref aB, .int (nI 0), .ref aH, .int (nI (ch * 128))]) (rest := []) ⟨hx, hb, hml, hown, hts⟩ (c_X7_copy (cC := cC) l [(h, .inr (9, [.ref aG, .ref aB, .ref aH, .int (nI ch), .ref aS, .int (nI hs), .ref aI, .int (nI ty), .int ea, .int ra, .int (nI wy), .int wd, .ref aL, .int (nI ln), .int (nI th), .int (nI sp), .int (nI iw), .ref aT])), (aG, .inl (cI, 128, .inl (gN G))), (aB, .inl (cI, 128, .inl (gN B))), (aH, .inl (cI, 1024, .inl (gN Hi))), (aS, .inl (cI, 128, .inl (gN Sv))), (aI, .inl (cI, 60, .inl (gN In))), (aL, .inl (cC, 40, .inl (gN Le))), (aT, .inl (cI, 360, .inl To))] 2 3 aB aH 128 1024 B Hi (fun X => hD _ _ _ _ _ _ _ _) rfl rfl (by decide) 0 (ch * 128) (by omega) (by omega) (by decide) (by decide)) (va_cwS 4 hts gX7_kept_X7_copy rfl rfl rfl (by decide +kernel) ⟨Nat.le_of_ble_eq_true rfl, Nat.le_of_ble_eq_true rfl⟩) (nv_pS hK hP) rfl rfl hl.1 rfl (lv_room (Nat.le_of_ble_eq_true rfl)) dX7_kept_89 ⟨Nat.zero_le _, Nat.zero_le _⟩) hS (fun H locs hP hS => ?_)
      have hP : va_P D vwCl [(h, .inr (9, [.ref aG, .ref aB, .ref aH, .int (nI ch), .ref aS, .int (nI hs), .ref aI, .int (nI ty), .int ea, .int ra, .int (nI wy), .int wd, .ref aL, .int (nI ln), .int (nI th), .int (nI sp), .int (nI iw), .ref aT])), (aG, .inl (cI, 128, .inl (gN G))), (aB, .inl (cI, 128, .inl (gN B))), (aH, .inl (cI, 1024, .inl (gN ((va_cpy B Hi 0 (ch * 128) 128))))), (aS, .inl (cI, 128, .inl (gN Sv))), (aI, .inl (cI, 60, .inl (gN In))), (aL, .inl (cC, 40, .inl (gN Le))), (aT, .inl (cI, 360, .inl To))] H := hP
      refine lv_aload_n hx hb dX7_kept_92 rfl (lv_at hl 0 rfl) ?_
      refine lv_dup hx hb dX7_kept_93 rfl ?_
      refine va_get (D := D) (ci := 9) (v := .int (nI ch)) (C := RX7) (T := TX7) (N := 18) hx hb hts in_X7 hown hK.1 hP 0 rfl rfl 3 (by decide) fl_59 (fun _ h9 => h9) rfl dX7_kept_94 ?_
      refine lv_iconst (v := nI 1) hx hb dX7_kept_97 (by decide) ?_
      refine nv_iadd hx hb dX7_kept_98 ?_
      refine va_put (D := D) (ci := 9) (v := .int (nI (ch + 1))) (ty := .int) (C := RX7) (T := TX7) (N := 18) hx hb hts in_X7 tyX7 tyX7_ok nmX7 hown hK.1 hP (hD _ _ _ _ _ _ _ _) hS 0 rfl rfl 3 (by decide) fl_59 (fun _ h9 => h9) rfl (by decide +kernel) rfl rfl (Nat.le_of_ble_eq_true rfl) dX7_kept_99 (fun H locs hP _ hS => ?_)
      have hP : va_P D vwCl [(h, .inr (9, [.ref aG, .ref aB, .ref aH, .int (nI (ch + 1)), .ref aS, .int (nI hs), .ref aI, .int (nI ty), .int ea, .int ra, .int (nI wy), .int wd, .ref aL, .int (nI ln), .int (nI th), .int (nI sp), .int (nI iw), .ref aT])), (aG, .inl (cI, 128, .inl (gN G))), (aB, .inl (cI, 128, .inl (gN B))), (aH, .inl (cI, 1024, .inl (gN ((va_cpy B Hi 0 (ch * 128) 128))))), (aS, .inl (cI, 128, .inl (gN Sv))), (aI, .inl (cI, 60, .inl (gN In))), (aL, .inl (cC, 40, .inl (gN Le))), (aT, .inl (cI, 360, .inl To))] H := hP
      refine lv_iload_n hx hb dX7_kept_102 rfl (lv_at hl 1 rfl) ?_
      exact nv_retM hq hx hb hr hlocks (nar_i _) (by rw [if_pos c1]) hS hP (by rw [if_pos c1, if_pos c1, if_pos c1, if_neg c2, show hPush Hi B ch = va_cpy B Hi 0 (ch * 128) 128 from if_neg c2]) dX7_kept_103
    · refine lv_iconst (v := nI 0) hx hb dX7_kept_31 (by decide) ?_
      refine lv_istore_n (lv' := [(2, .int (nI 0)), (0, .ref h), (1, .int v)]) hx hb dX7_kept_32 rfl hl (by decide) rfl (fun ls hl => ?_)
      have hloop3 : ∀ (nn : Nat) (k : Nat), (k ≤ 896) → 896 - k < nn → ∀ (H : Heap) (locs : List Loc), va_P D vwCl [(h, .inr (9, [.ref aG, .ref aB, .ref aH, .int (nI ch), .ref aS, .int (nI hs), .ref aI, .int (nI ty), .int ea, .int ra, .int (nI wy), .int wd, .ref aL, .int (nI ln), .int (nI th), .int (nI sp), .int (nI iw), .ref aT])), (aG, .inl (cI, 128, .inl (gN G))), (aB, .inl (cI, 128, .inl (gN B))), (aH, .inl (cI, 1024, .inl (gN ((shF Hi k))))), (aS, .inl (cI, 128, .inl (gN Sv))), (aI, .inl (cI, 60, .inl (gN In))), (aL, .inl (cC, 40, .inl (gN Le))), (aT, .inl (cI, 360, .inl To))] H → va_S A s.heap H locs → ∀ (ls : Array Slot), lv_has ls 3 [(2, .int (nI k)), (0, .ref h), (1, .int v)] → W p0 l e0 ({ frames := 1, cells := 0, slots := 0, locals := 24 }) s m0 args below meth c0 H locs 0 0 Q (F0 m0 33 ls []) := by
        intro nn33
        induction nn33 with
        | zero => intro k hk hn0 _ _ _ _ _ _; exact absurd hn0 (Nat.not_lt_zero _)
        | succ nn33 ih33 =>
          intro k hk hn33 H locs hP hS ls hl
          have hP : va_P D vwCl [(h, .inr (9, [.ref aG, .ref aB, .ref aH, .int (nI ch), .ref aS, .int (nI hs), .ref aI, .int (nI ty), .int ea, .int ra, .int (nI wy), .int wd, .ref aL, .int (nI ln), .int (nI th), .int (nI sp), .int (nI iw), .ref aT])), (aG, .inl (cI, 128, .inl (gN G))), (aB, .inl (cI, 128, .inl (gN B))), (aH, .inl (cI, 1024, .inl (gN ((shF Hi k))))), (aS, .inl (cI, 128, .inl (gN Sv))), (aI, .inl (cI, 60, .inl (gN In))), (aL, .inl (cC, 40, .inl (gN Le))), (aT, .inl (cI, 360, .inl To))] H := hP
          refine lv_iload_n hx hb dX7_kept_33 rfl (lv_at hl 0 rfl) ?_
          refine lv_sipush (v := nI 896) hx hb dX7_kept_34 (by decide) ?_
          refine nv_icmp_ge (tgt := 62) hx hb dX7_kept_37 (by decide) (by omega) (by omega) (fun c4 => ?_) (fun c4 => ?_)
          · refine lv_aload_n hx hb dX7_kept_62 rfl (lv_at hl 1 rfl) ?_
            refine lv_dup hx hb dX7_kept_63 rfl ?_
            refine va_get (D := D) (ci := 9) (v := .int (nI ch)) (C := RX7) (T := TX7) (N := 18) hx hb hts in_X7 hown hK.1 hP 0 rfl rfl 3 (by decide) fl_59 (fun _ h9 => h9) rfl dX7_kept_64 ?_
            refine lv_iconst (v := nI 1) hx hb dX7_kept_67 (by decide) ?_
            refine nv_isub hx hb dX7_kept_68 (by omega) ?_
            refine va_put (D := D) (ci := 9) (v := .int (nI (ch - 1))) (ty := .int) (C := RX7) (T := TX7) (N := 18) hx hb hts in_X7 tyX7 tyX7_ok nmX7 hown hK.1 hP (hD _ _ _ _ _ _ _ _) hS 0 rfl rfl 3 (by decide) fl_59 (fun _ h9 => h9) rfl (by decide +kernel) rfl rfl (Nat.le_of_ble_eq_true rfl) dX7_kept_69 (fun H locs hP _ hS => ?_)
            have hP : va_P D vwCl [(h, .inr (9, [.ref aG, .ref aB, .ref aH, .int (nI (ch - 1)), .ref aS, .int (nI hs), .ref aI, .int (nI ty), .int ea, .int ra, .int (nI wy), .int wd, .ref aL, .int (nI ln), .int (nI th), .int (nI sp), .int (nI iw), .ref aT])), (aG, .inl (cI, 128, .inl (gN G))), (aB, .inl (cI, 128, .inl (gN B))), (aH, .inl (cI, 1024, .inl (gN ((shF Hi k))))), (aS, .inl (cI, 128, .inl (gN Sv))), (aI, .inl (cI, 60, .inl (gN In))), (aL, .inl (cC, 40, .inl (gN Le))), (aT, .inl (cI, 360, .inl To))] H := hP
            refine lv_aload_n hx hb dX7_kept_72 rfl (lv_at hl 1 rfl) ?_
            refine va_get (D := D) (ci := 9) (v := .ref aB) (C := RX7) (T := TX7) (N := 18) hx hb hts in_X7 hown hK.1 hP 0 rfl rfl 1 (by decide) fl_13 (fun _ h9 => h9) rfl dX7_kept_73 ?_
            refine lv_iconst (v := nI 0) hx hb dX7_kept_76 (by decide) ?_
            refine lv_aload_n hx hb dX7_kept_77 rfl (lv_at hl 1 rfl) ?_
            refine va_get (D := D) (ci := 9) (v := .ref aH) (C := RX7) (T := TX7) (N := 18) hx hb hts in_X7 hown hK.1 hP 0 rfl rfl 2 (by decide) fl_16 (fun _ h9 => h9) rfl dX7_kept_78 ?_
            refine lv_aload_n hx hb dX7_kept_81 rfl (lv_at hl 1 rfl) ?_
            refine va_get (D := D) (ci := 9) (v := .int (nI (ch - 1))) (C := RX7) (T := TX7) (N := 18) hx hb hts in_X7 hown hK.1 hP 0 rfl rfl 3 (by decide) fl_59 (fun _ h9 => h9) rfl dX7_kept_82 ?_
            refine lv_sipush (v := nI 128) hx hb dX7_kept_85 (by decide) ?_
            refine nv_imul hx hb dX7_kept_88 ?_
            refine nv_kMv (va_runS (As := [.ref aB, .int (nI 0), .ref aH, .int (nI ((ch - 1) * 128))]) (rest := []) ⟨hx, hb, hml, hown, hts⟩ (c_X7_copy (cC := cC) l [(h, .inr (9, [.ref aG, .ref aB, .ref aH, .int (nI (ch - 1)), .ref aS, .int (nI hs), .ref aI, .int (nI ty), .int ea, .int ra, .int (nI wy), .int wd, .ref aL, .int (nI ln), .int (nI th), .int (nI sp), .int (nI iw), .ref aT])), (aG, .inl (cI, 128, .inl (gN G))), (aB, .inl (cI, 128, .inl (gN B))), (aH, .inl (cI, 1024, .inl (gN ((shF Hi k))))), (aS, .inl (cI, 128, .inl (gN Sv))), (aI, .inl (cI, 60, .inl (gN In))), (aL, .inl (cC, 40, .inl (gN Le))), (aT, .inl (cI, 360, .inl To))] 2 3 aB aH 128 1024 B ((shF Hi k)) (fun X => hD _ _ _ _ _ _ _ _) rfl rfl (by decide) 0 ((ch - 1) * 128) (by omega) (by omega) (by decide) (by decide)) (va_cwS 4 hts gX7_kept_X7_copy rfl rfl rfl (by decide +kernel) ⟨Nat.le_of_ble_eq_true rfl, Nat.le_of_ble_eq_true rfl⟩) (nv_pS hK hP) rfl rfl hl.1 rfl (lv_room (Nat.le_of_ble_eq_true rfl)) dX7_kept_89 ⟨Nat.zero_le _, Nat.zero_le _⟩) hS (fun H locs hP hS => ?_)
            have hP : va_P D vwCl [(h, .inr (9, [.ref aG, .ref aB, .ref aH, .int (nI (ch - 1)), .ref aS, .int (nI hs), .ref aI, .int (nI ty), .int ea, .int ra, .int (nI wy), .int wd, .ref aL, .int (nI ln), .int (nI th), .int (nI sp), .int (nI iw), .ref aT])), (aG, .inl (cI, 128, .inl (gN G))), (aB, .inl (cI, 128, .inl (gN B))), (aH, .inl (cI, 1024, .inl (gN ((va_cpy B ((shF Hi k)) 0 ((ch - 1) * 128) 128))))), (aS, .inl (cI, 128, .inl (gN Sv))), (aI, .inl (cI, 60, .inl (gN In))), (aL, .inl (cC, 40, .inl (gN Le))), (aT, .inl (cI, 360, .inl To))] H := hP
            refine lv_aload_n hx hb dX7_kept_92 rfl (lv_at hl 1 rfl) ?_
            refine lv_dup hx hb dX7_kept_93 rfl ?_
            refine va_get (D := D) (ci := 9) (v := .int (nI (ch - 1))) (C := RX7) (T := TX7) (N := 18) hx hb hts in_X7 hown hK.1 hP 0 rfl rfl 3 (by decide) fl_59 (fun _ h9 => h9) rfl dX7_kept_94 ?_
            refine lv_iconst (v := nI 1) hx hb dX7_kept_97 (by decide) ?_
            refine nv_iadd hx hb dX7_kept_98 ?_
            refine va_put (D := D) (ci := 9) (v := .int (nI (ch - 1 + 1))) (ty := .int) (C := RX7) (T := TX7) (N := 18) hx hb hts in_X7 tyX7 tyX7_ok nmX7 hown hK.1 hP (hD _ _ _ _ _ _ _ _) hS 0 rfl rfl 3 (by decide) fl_59 (fun _ h9 => h9) rfl (by decide +kernel) rfl rfl (Nat.le_of_ble_eq_true rfl) dX7_kept_99 (fun H locs hP _ hS => ?_)
            have hP : va_P D vwCl [(h, .inr (9, [.ref aG, .ref aB, .ref aH, .int (nI (ch - 1 + 1)), .ref aS, .int (nI hs), .ref aI, .int (nI ty), .int ea, .int ra, .int (nI wy), .int wd, .ref aL, .int (nI ln), .int (nI th), .int (nI sp), .int (nI iw), .ref aT])), (aG, .inl (cI, 128, .inl (gN G))), (aB, .inl (cI, 128, .inl (gN B))), (aH, .inl (cI, 1024, .inl (gN ((va_cpy B ((shF Hi k)) 0 ((ch - 1) * 128) 128))))), (aS, .inl (cI, 128, .inl (gN Sv))), (aI, .inl (cI, 60, .inl (gN In))), (aL, .inl (cC, 40, .inl (gN Le))), (aT, .inl (cI, 360, .inl To))] H := hP
            refine lv_iload_n hx hb dX7_kept_102 rfl (lv_at hl 2 rfl) ?_
            exact nv_retM hq hx hb hr hlocks (nar_i _) (by rw [if_pos c1]) hS hP (by subst c2; rw [show k = 896 by omega, if_pos c1, if_pos c1, if_pos c1] <;> rfl) dX7_kept_103
          · refine lv_aload_n hx hb dX7_kept_40 rfl (lv_at hl 1 rfl) ?_
            refine va_get (D := D) (ci := 9) (v := .ref aH) (C := RX7) (T := TX7) (N := 18) hx hb hts in_X7 hown hK.1 hP 0 rfl rfl 2 (by decide) fl_16 (fun _ h9 => h9) rfl dX7_kept_41 ?_
            refine lv_iload_n hx hb dX7_kept_44 rfl (lv_at hl 0 rfl) ?_
            refine lv_aload_n hx hb dX7_kept_45 rfl (lv_at hl 1 rfl) ?_
            refine va_get (D := D) (ci := 9) (v := .ref aH) (C := RX7) (T := TX7) (N := 18) hx hb hts in_X7 hown hK.1 hP 0 rfl rfl 2 (by decide) fl_16 (fun _ h9 => h9) rfl dX7_kept_46 ?_
            refine lv_iload_n hx hb dX7_kept_49 rfl (lv_at hl 0 rfl) ?_
            refine lv_sipush (v := nI 128) hx hb dX7_kept_50 (by decide) ?_
            refine nv_iadd hx hb dX7_kept_53 ?_
            refine nv_gald (i := k + 128) hx hb hK.1 hP 3 0 rfl rfl (by first | omega | (simp only [gEndAt]; omega)) (by decide) dX7_kept_54 ?_
            refine nv_gast (i := k) (v := (shF Hi k) (k + 128)) hx hb hK.1 hP (hD _ _ _ _ _ _ _ _) hS 3 0 rfl rfl (by first | omega | (simp only [gEndAt]; omega)) (by decide) dX7_kept_55 (fun H locs hP hS => ?_)
            have hP : va_P D vwCl [(h, .inr (9, [.ref aG, .ref aB, .ref aH, .int (nI ch), .ref aS, .int (nI hs), .ref aI, .int (nI ty), .int ea, .int ra, .int (nI wy), .int wd, .ref aL, .int (nI ln), .int (nI th), .int (nI sp), .int (nI iw), .ref aT])), (aG, .inl (cI, 128, .inl (gN G))), (aB, .inl (cI, 128, .inl (gN B))), (aH, .inl (cI, 1024, .inl (gN ((va_up (shF Hi k) (k) ((shF Hi k) (k + 128))))))), (aS, .inl (cI, 128, .inl (gN Sv))), (aI, .inl (cI, 60, .inl (gN In))), (aL, .inl (cC, 40, .inl (gN Le))), (aT, .inl (cI, 360, .inl To))] H := hP
            refine lv_iinc (v := nI (k + 1)) (lv' := [(2, .int (nI (k + 1))), (0, .ref h), (1, .int v)]) hx hb dX7_kept_56 hl (k := 0) rfl (by show nI _ + Int32.ofInt 1 = _; exact nI_add _ 1) (by decide) rfl (fun ls hl => ?_)
            refine lv_goto (tgt := 33) hx hb dX7_kept_59 (by decide) ?_
            exact ih33  (k + 1) ((by omega)) (by omega) _ _ (by rw [shF_up] at hP; exact hP) hS ls (lv_sub hl [0, 1, 2] rfl)
      exact hloop3 _ 0 ((Nat.zero_le _)) (Nat.lt_succ_self _) _ _ (by rw [show shF Hi 0 = Hi from by funext j; unfold shF; rw [if_neg (by omega)]]; exact hP) hS ls (lv_sub hl [0, 1, 2] rfl)
  · refine lv_aload_n hx hb dX7_kept_7 rfl (lv_at hl 0 rfl) ?_
    refine va_get (D := D) (ci := 9) (v := .ref aB) (C := RX7) (T := TX7) (N := 18) hx hb hts in_X7 hown hK.1 hP 0 rfl rfl 1 (by decide) fl_13 (fun _ h9 => h9) rfl dX7_kept_8 ?_
    refine lv_iconst (v := nI 0) hx hb dX7_kept_11 (by decide) ?_
    refine lv_aload_n hx hb dX7_kept_12 rfl (lv_at hl 0 rfl) ?_
    refine va_get (D := D) (ci := 9) (v := .ref aG) (C := RX7) (T := TX7) (N := 18) hx hb hts in_X7 hown hK.1 hP 0 rfl rfl 0 (by decide) fl_7 (fun _ h9 => h9) rfl dX7_kept_13 ?_
    refine lv_iconst (v := nI 0) hx hb dX7_kept_16 (by decide) ?_
    refine nv_kMv (va_runS (As := [.ref aB, .int (nI 0), .ref aG, .int (nI 0)]) (rest := []) ⟨hx, hb, hml, hown, hts⟩ (c_X7_copy (cC := cC) l [(h, .inr (9, [.ref aG, .ref aB, .ref aH, .int (nI ch), .ref aS, .int (nI hs), .ref aI, .int (nI ty), .int ea, .int ra, .int (nI wy), .int wd, .ref aL, .int (nI ln), .int (nI th), .int (nI sp), .int (nI iw), .ref aT])), (aG, .inl (cI, 128, .inl (gN G))), (aB, .inl (cI, 128, .inl (gN B))), (aH, .inl (cI, 1024, .inl (gN Hi))), (aS, .inl (cI, 128, .inl (gN Sv))), (aI, .inl (cI, 60, .inl (gN In))), (aL, .inl (cC, 40, .inl (gN Le))), (aT, .inl (cI, 360, .inl To))] 2 1 aB aG 128 128 B G (fun X => hD _ _ _ _ _ _ _ _) rfl rfl (by decide) 0 0 (by omega) (by omega) (by decide) (by decide)) (va_cwS 4 hts gX7_kept_X7_copy rfl rfl rfl (by decide +kernel) ⟨Nat.le_of_ble_eq_true rfl, Nat.le_of_ble_eq_true rfl⟩) (nv_pS hK hP) rfl rfl hl.1 rfl (lv_room (Nat.le_of_ble_eq_true rfl)) dX7_kept_17 ⟨Nat.zero_le _, Nat.zero_le _⟩) hS (fun H locs hP hS => ?_)
    have hP : va_P D vwCl [(h, .inr (9, [.ref aG, .ref aB, .ref aH, .int (nI ch), .ref aS, .int (nI hs), .ref aI, .int (nI ty), .int ea, .int ra, .int (nI wy), .int wd, .ref aL, .int (nI ln), .int (nI th), .int (nI sp), .int (nI iw), .ref aT])), (aG, .inl (cI, 128, .inl (gN ((va_cpy B G 0 0 128))))), (aB, .inl (cI, 128, .inl (gN B))), (aH, .inl (cI, 1024, .inl (gN Hi))), (aS, .inl (cI, 128, .inl (gN Sv))), (aI, .inl (cI, 60, .inl (gN In))), (aL, .inl (cC, 40, .inl (gN Le))), (aT, .inl (cI, 360, .inl To))] H := hP
    have hP := va_P_arr hP 1 (gN B) rfl (fun k hk => congrArg nI (by unfold va_cpy; rw [if_pos (by omega)]; congr 1; omega))
    have hP : va_P D vwCl [(h, .inr (9, [.ref aG, .ref aB, .ref aH, .int (nI ch), .ref aS, .int (nI hs), .ref aI, .int (nI ty), .int ea, .int ra, .int (nI wy), .int wd, .ref aL, .int (nI ln), .int (nI th), .int (nI sp), .int (nI iw), .ref aT])), (aG, .inl (cI, 128, .inl (gN B))), (aB, .inl (cI, 128, .inl (gN B))), (aH, .inl (cI, 1024, .inl (gN Hi))), (aS, .inl (cI, 128, .inl (gN Sv))), (aI, .inl (cI, 60, .inl (gN In))), (aL, .inl (cC, 40, .inl (gN Le))), (aT, .inl (cI, 360, .inl To))] H := hP
    refine lv_iconst (v := nI 0) hx hb dX7_kept_20 (by decide) ?_
    exact nv_retM hq hx hb hr hlocks (nar_i _) (by rw [if_neg c1] <;> rfl) hS hP (by rw [if_neg c1, if_neg c1, if_neg c1]) dX7_kept_21
