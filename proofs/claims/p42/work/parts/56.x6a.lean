theorem ap_bad {p : Int32} {k : Nat} (hk : k < 4) (h0 : ¬ bO p k = 0) (h : ¬ (32 ≤ bO p k ∧ bO p k ≤ 126)) : 4 < sm (bC p) 4 := by
  have h1 := sm_mono (f := bC p) (show k + 1 ≤ 4 by omega)
  rw [sm] at h1
  have h2 : bC p k = 100 := by unfold bC; rw [if_neg h0, if_neg h]
  omega
theorem cIn.recv {D : va_G} {AD : Nat → Nat} {H : Heap} {cI cC : ClassId} {V : Nat → Int32} {SA : Nat → Nat} {o pl ty vc : Nat} {s : State} {tys : List (ClassId × FieldType)} (hK : va_K D vwCl tys s) (h : va_P D vwCl (iw cI cC (cAd AD 162) V SA o pl ty vc) H) : ∃ cell : Cell, H[AD 162]? = some cell ∧ cell.vm.isStatics = false ∧ s.vm.findClass RX2 = some cell.cls := va_recv hK h (ci := 4) (q0 := 0) rfl rfl

set_option maxHeartbeats 1000000 in
set_option maxRecDepth 100000 in
theorem c_X6_append (l : Launch) (hl9 : l.stackTraces = false) {D : va_G} {cI cC cD cR : ClassId} {sa : sA} {A : Nat → Prop} {AD : Nat → Nat} {G Sv Hi In Le : Nat → Nat} {b hs ch ty wy ln : Nat} {ea ra wd : Int32} (hI : cInj AD) (hAA : ∀ i, i < 165 → A (AD i)) (p : Int32) (hty : ty ≤ 60) : vx_Met l yX6_append wsX6_append ({ frames := 6, cells := 1, slots := 6, locals := 82 }) (va_Pc [.ref (AD 0), .int p] (tPre D [(cI, .int), (cC, .char), (cD, .object "DoorDialect$Door"), (cR, .object "DoorDialect$House")] nN sa A (cW D cI cC cD cR AD G Sv Hi In Le hs ch ty wy ln ea ra wd))) (gQX (if 4 < sm (bC p) 4 then 1 else (if 60 < ty + sm (bC p) 4 then 2 else 0)) ((if 4 < sm (bC p) 4 then 0 else (if 60 < ty + sm (bC p) 4 then 0 else nI (apI In ty p 4).2))) (cW D cI cC cD cR AD G Sv Hi ((if 4 < sm (bC p) 4 then In else (if 60 < ty + sm (bC p) 4 then In else (apI In ty p 4).1))) Le hs ch ((if 4 < sm (bC p) 4 then ty else (if 60 < ty + sm (bC p) 4 then ty else (apI In ty p 4).2))) wy ln ea ra wd) A) (xQ ["java/lang/IllegalArgumentException", "java/lang/IllegalStateException"] (if 4 < sm (bC p) 4 then 1 else (if 60 < ty + sm (bC p) 4 then 2 else 0)) (cW D cI cC cD cR AD G Sv Hi ((if 4 < sm (bC p) 4 then In else (if 60 < ty + sm (bC p) 4 then In else (apI In ty p 4).1))) Le hs ch ((if 4 < sm (bC p) 4 then ty else (if 60 < ty + sm (bC p) 4 then ty else (apI In ty p 4).2))) wy ln ea ra wd) A) 1 6 A := by
  refine nv_metX (cc := cX6_append) (maxL := 5) (ret := (some .int)) (by decide) rfl (Nat.le_of_ble_eq_true rfl) ?_
  intro p0 e0 s m0 args below meth c0 Q hq hargs hnA hout hpre ls hl
  obtain ⟨hx, hb, hr, hts, hown, hlocks, hml⟩ := hnA
  obtain ⟨hP, hT⟩ := hpre
  have hK := hT.1
  have hown : s.vm.findClass RX6 = some m0.cls := hown
  obtain ⟨hPo, ⟨u, hR, hk, hPh⟩, hPi, hPs, hPp, hPw, hPt⟩ := hP
  have hPo : va_P D vwCl (cOb AD (hs) (wy) (wd) (ea) (ra)) s.heap := hPo
  have hPh : va_P D vwCl (hw cI cD (cAd AD 1) u) s.heap := hPh
  obtain ⟨V9, SA9, o9, pl9, vc9, hSA9, hPi⟩ := hPi
  rw [hSA9] at hPi
  have hl : lv_has ls 5 [(0, .ref (AD 0)), (1, .int p)] := hl
  have hS : va_S A s.heap s.heap [] := va_S.rf
  have in_X2 : ∀ w ∈ wsX20, w ∈ wsX6_append := by decide +kernel
  have in_X6 : ∀ w ∈ wsX60, w ∈ wsX6_append := by decide +kernel
  have fl_43 := hts (.fieldLink RX6 43 "DoorDialect" "input" "LDoorDialect$Input;") (by decide +kernel)
  have fl_343 := hts (.fieldLink RX6 343 "DoorDialect$Input" "length" "I") (by decide +kernel)
  refine lv_iconst (v := nI 0) hx hb dX6_append_0 (by decide) ?_
  refine lv_istore_n (lv' := [(2, .int (nI 0)), (0, .ref (AD 0)), (1, .int p)]) hx hb dX6_append_1 rfl hl (by decide) rfl (fun ls hl => ?_)
  refine lv_bipush (v := nI 24) hx hb dX6_append_2 (by decide) ?_
  refine lv_istore_n (lv' := [(3, .int (nI 24)), (2, .int (nI 0)), (0, .ref (AD 0)), (1, .int p)]) hx hb dX6_append_4 rfl hl (by decide) rfl (fun ls hl => ?_)
  rw [show nI 24 = nI 24 - nI (8 * 0) from by decide] at hl
  have hloop1 : ∀ (nn : Nat) (k : Nat) (t : Nat), (k ≤ 4) → (t = sm (bC p) k) → (∀ j, j < k → bC p j ≤ 1) → 4 - k < nn → ∀ (ls : Array Slot), lv_has ls 5 [(3, .int (nI 24 - nI (8 * k))), (2, .int (nI t)), (0, .ref (AD 0)), (1, .int p)] → W p0 l e0 ({ frames := 6, cells := 1, slots := 6, locals := 82 }) s m0 args below meth c0 s.heap [] 0 0 Q (F0 m0 5 ls []) := by
    intro nn5
    induction nn5 with
    | zero => intro k t hk9 ht hb1 hn0  _ _; exact absurd hn0 (Nat.not_lt_zero _)
    | succ nn5 ih5 =>
      intro k t hk9 ht hb1 hn5  ls hl
      have htb : t ≤ 4 := by rw [ht]; exact Nat.le_trans (sm_le (f := bC p) (b := 1) (n := k) hb1) (by omega)
      refine lv_iload_n hx hb dX6_append_5 rfl (lv_at hl 0 rfl) ?_
      refine lv_if_lt (tgt := 57) hx hb dX6_append_6 (by decide) (fun c2 => ?_) (fun c2 => ?_)
      · have hk4 : k = 4 := (sh_neg k (by omega)).mp c2
        have hap : sm (bC p) 4 ≤ 4 := Nat.le_trans (sm_le (f := bC p) (b := 1) (n := 4) (fun j hj => hb1 j (by omega))) (by decide)
        have ht4 : t = sm (bC p) 4 := by rw [ht, hk4]
        refine lv_aload_n hx hb dX6_append_57 rfl (lv_at hl 2 rfl) ?_
        refine va_get (D := D) (ci := 8) (v := .ref ((cAd AD 162) 0)) (C := RX6) (T := TX6) (N := 11) hx hb hts in_X6 hown hK.1 hPo 0 rfl rfl 5 (by decide) fl_43 (fun _ h9 => h9) rfl dX6_append_58 ?_
        have hP := hPi
        refine va_get (D := D) (ci := 4) (v := .int (nI ty)) (C := RX2) (T := TX2) (N := 6) hx hb hts in_X2 hown hK.1 hP 0 rfl rfl 3 (by decide) fl_343 (fun _ h9 => h9) rfl dX6_append_61 ?_
        refine lv_iload_n hx hb dX6_append_64 rfl (lv_at hl 1 rfl) ?_
        refine nv_iadd hx hb dX6_append_65 ?_
        refine lv_bipush (v := nI 60) hx hb dX6_append_66 (by decide) ?_
        refine nv_icmp_le (tgt := 82) hx hb dX6_append_68 (by decide) (by first | omega | (have := bO_lt p k; omega)) (by first | omega | (have := bO_lt p k; omega)) (fun c3 => ?_) (fun c3 => ?_)
        · refine lv_aload_n hx hb dX6_append_82 rfl (lv_at hl 2 rfl) ?_
          refine va_get (D := D) (ci := 8) (v := .ref ((cAd AD 162) 0)) (C := RX6) (T := TX6) (N := 11) hx hb hts in_X6 hown hK.1 hPo 0 rfl rfl 5 (by decide) fl_43 (fun _ h9 => h9) rfl dX6_append_83 ?_
          refine lv_iload_n hx hb dX6_append_86 rfl (lv_at hl 3 rfl) ?_
          refine nv_kGv (va_runV (As := [.int p]) (rest := []) ⟨hx, hb, hml, hown, hts⟩ (c_X2_addPacked (x := cAd AD 162) l (fun _ _ _ => cD_of (b := 162) (n := 3) hI cAt_3 (by decide)) (p) hap (by omega)) (cwV 1 hts gX6_append_X2_addPacked rfl rfl rfl (by decide +kernel) ⟨Nat.le_of_ble_eq_true rfl, Nat.le_of_ble_eq_true rfl⟩) (nt_pVn hT hS (cRg_A hAA (by decide)) hPi (cIn.recv hK.1 hPi)) rfl rfl hl.1 rfl (lv_room (Nat.le_of_ble_eq_true rfl)) dX6_append_87 ⟨Nat.le_of_ble_eq_true rfl, Nat.le_of_ble_eq_true rfl⟩) hS (cRg_A hAA (by decide)) (fun H locs hP1 hK1 hS => ?_)
          have hPi : va_P D vwCl (iw cI cC (cAd AD 162) (V9) ((apI In ty (p) 4).1) (o9) (pl9) ((apI In ty (p) 4).2) (vc9)) H := hP1
          have hPo := cOn_Ob.keep hI hK1 hPo (Or.inl (by decide)) (by decide) (by decide)
          have hPh := (cOn_P (cAt_hw 1)).keep hI hK1 hPh (Or.inl (by decide)) (by decide) (by decide)
          have hPs := cOn_Sv.keep hI hK1 hPs (Or.inl (by decide)) (by decide) (by decide)
          have hPp := cOn_Pa.keep hI hK1 hPp (Or.inl (by decide)) (by decide) (by decide)
          have hPw := cOn_Wk.keep hI hK1 hPw (Or.inl (by decide)) (by decide) (by decide)
          have hPt := cOn_Tx.keep hI hK1 hPt (Or.inl (by decide)) (by decide) (by decide)
          refine lv_aload_n hx hb dX6_append_90 rfl (lv_at hl 2 rfl) ?_
          refine va_get (D := D) (ci := 8) (v := .ref ((cAd AD 162) 0)) (C := RX6) (T := TX6) (N := 11) hx hb hts in_X6 hown hK.1 hPo 0 rfl rfl 5 (by decide) fl_43 (fun _ h9 => h9) rfl dX6_append_91 ?_
          have hP := hPi
          refine va_get (D := D) (ci := 4) (v := .int (nI ((apI In ty (p) 4).2))) (C := RX2) (T := TX2) (N := 6) hx hb hts in_X2 hown hK.1 hP 0 rfl rfl 3 (by decide) fl_343 (fun _ h9 => h9) rfl dX6_append_94 ?_
          exact nv_retGX hq hx hb hr hlocks (Nat.le_of_ble_eq_true rfl) (Nat.le_of_ble_eq_true rfl) (nar_i _) (by rw [if_neg (by omega), if_neg (by omega)]) (by rw [if_neg (by omega), if_neg (by omega)]) hS (by rw [if_neg (by omega), if_neg (by omega), if_neg (by omega), if_neg (by omega)]; exact ⟨hPo, ⟨u, hR, hk, hPh⟩, ⟨V9, _, o9, pl9, vc9, rfl, hPi⟩, hPs, hPp, hPw, hPt⟩) dX6_append_97
        · exact nv_throwW (ws := wsX6_append) (ik := 318) (is := 361) (ic := 322) (cls := "java/lang/IllegalStateException") (text := "there would be too many characters") (names := ["java/lang/RuntimeException", "java/lang/Exception"]) hq hx hb hl9 hown hts hT xISE_fit ⟨by decide +kernel, by decide +kernel⟩ ⟨by decide +kernel, by decide +kernel⟩ (fun w hw => List.mem_cons_of_mem _ (List.mem_append_left _ (List.mem_append_right _ hw))) xISE_bad xISE_ok hS (hl.1.trans hml.symm) dX6_append_71 dX6_append_74 dX6_append_75 dX6_append_78 dX6_append_81 hout (by decide) (Nat.le_of_ble_eq_true rfl) (Nat.le_of_ble_eq_true rfl) (Nat.le_of_ble_eq_true rfl) hlocks (Nat.le_of_ble_eq_true rfl) (Nat.le_of_ble_eq_true rfl) (by rw [if_neg (by omega), if_pos (by omega)]; exact Nat.succ_ne_zero _) (by rw [if_neg (by omega), if_pos (by omega)] <;> rfl) (fun H1 h9 => by rw [if_neg (by omega), if_pos (by omega), if_neg (by omega), if_pos (by omega)]; exact (cJ.grow (show cJ D cI cC cD cR AD u Sv Hi In Le hs ch ty wy ln ea ra wd _ from ⟨hPo, hPh, ⟨V9, _, o9, pl9, vc9, rfl, hPi⟩, hPs, hPp, hPw, hPt⟩) h9).W hR hk)
      · have hk4 : k < 4 := by rcases Nat.lt_or_ge k 4 with h | h; exact h; exact absurd ((sh_neg k (by omega)).mpr (by omega)) c2
        refine lv_iload_n hx hb dX6_append_9 rfl (lv_at hl 3 rfl) ?_
        refine lv_iload_n hx hb dX6_append_10 rfl (lv_at hl 0 rfl) ?_
        refine lv_iushr (v := (p.toUInt32 >>> ((nI 24 - nI (8 * k)).toUInt32 &&& Int32.toUInt32 31)).toInt32) hx hb dX6_append_11 (rfl) ?_
        refine lv_sipush (v := nI 255) hx hb dX6_append_12 (by decide) ?_
        refine lv_iand hx hb dX6_append_15 ?_
        refine nv_to (bO p k) (bO_eq p k (by omega)) ?_
        refine lv_istore (lv' := [(4, .int (nI (bO p k))), (3, .int (nI 24 - nI (8 * k))), (2, .int (nI t)), (0, .ref (AD 0)), (1, .int p)]) hx hb dX6_append_16 hl (by decide) rfl (fun ls hl => ?_)
        refine lv_iload hx hb dX6_append_18 (lv_at hl 0 rfl) ?_
        refine nv_if_eq (tgt := 51) hx hb dX6_append_20 (by decide) (by first | omega | (have := bO_lt p k; omega)) (fun c4 => ?_) (fun c4 => ?_)
        · refine lv_iinc (v := nI 24 - nI (8 * (k + 1))) (lv' := [(3, .int (nI 24 - nI (8 * (k + 1)))), (4, .int (nI (bO p k))), (2, .int (nI t)), (0, .ref (AD 0)), (1, .int p)]) hx hb dX6_append_51 hl (k := 1) rfl (sh_next k (by omega)) (by decide) rfl (fun ls hl => ?_)
          refine lv_goto (tgt := 5) hx hb dX6_append_54 (by decide) ?_
          exact ih5  (k + 1) t ((by omega)) ((by rw [ht]; show _ = sm (bC p) k + bC p k; rw [show bC p k = 0 from if_pos c4] <;> rfl)) ((fun j hj => by rcases (show j < k ∨ j = k by omega) with h | h; exact hb1 j h; subst h; rw [show bC p j = 0 from if_pos c4]; decide)) (by omega) ls (lv_sub hl [0, 2, 3, 4] rfl)
        · refine lv_iload hx hb dX6_append_23 (lv_at hl 0 rfl) ?_
          refine lv_bipush (v := nI 32) hx hb dX6_append_25 (by decide) ?_
          refine nv_icmp_lt (tgt := 37) hx hb dX6_append_27 (by decide) (by first | omega | (have := bO_lt p k; omega)) (by first | omega | (have := bO_lt p k; omega)) (fun c5 => ?_) (fun c5 => ?_)
          · have hbad := ap_bad hk4 c4 (fun q => by omega)
            exact nv_throwW (ws := wsX6_append) (ik := 168) (is := 359) (ic := 172) (cls := "java/lang/IllegalArgumentException") (text := "a byte is not from 32 to 126") (names := ["java/lang/RuntimeException", "java/lang/Exception"]) hq hx hb hl9 hown hts hT xIAE_fit ⟨by decide +kernel, by decide +kernel⟩ ⟨by decide +kernel, by decide +kernel⟩ (fun w hw => List.mem_cons_of_mem _ (List.mem_append_left _ (List.mem_append_left _ (List.mem_append_right _ hw)))) xIAE_bad xIAE_ok hS (hl.1.trans hml.symm) dX6_append_37 dX6_append_40 dX6_append_41 dX6_append_44 dX6_append_47 hout (by decide) (Nat.le_of_ble_eq_true rfl) (Nat.le_of_ble_eq_true rfl) (Nat.le_of_ble_eq_true rfl) hlocks (Nat.le_of_ble_eq_true rfl) (Nat.le_of_ble_eq_true rfl) (by rw [if_pos hbad]; exact Nat.succ_ne_zero _) (by rw [if_pos hbad] <;> rfl) (fun H1 h9 => by rw [if_pos hbad, if_pos hbad]; exact (cJ.grow (show cJ D cI cC cD cR AD u Sv Hi In Le hs ch ty wy ln ea ra wd _ from ⟨hPo, hPh, ⟨V9, _, o9, pl9, vc9, rfl, hPi⟩, hPs, hPp, hPw, hPt⟩) h9).W hR hk)
          · refine lv_iload hx hb dX6_append_30 (lv_at hl 0 rfl) ?_
            refine lv_bipush (v := nI 126) hx hb dX6_append_32 (by decide) ?_
            refine nv_icmp_le (tgt := 48) hx hb dX6_append_34 (by decide) (by first | omega | (have := bO_lt p k; omega)) (by first | omega | (have := bO_lt p k; omega)) (fun c6 => ?_) (fun c6 => ?_)
            · refine lv_iinc (v := nI (t + 1)) (lv' := [(2, .int (nI (t + 1))), (4, .int (nI (bO p k))), (3, .int (nI 24 - nI (8 * k))), (0, .ref (AD 0)), (1, .int p)]) hx hb dX6_append_48 hl (k := 2) rfl (by show nI _ + Int32.ofInt 1 = _; exact nI_add _ 1) (by decide) rfl (fun ls hl => ?_)
              refine lv_iinc (v := nI 24 - nI (8 * (k + 1))) (lv' := [(3, .int (nI 24 - nI (8 * (k + 1)))), (2, .int (nI (t + 1))), (4, .int (nI (bO p k))), (0, .ref (AD 0)), (1, .int p)]) hx hb dX6_append_51 hl (k := 2) rfl (sh_next k (by omega)) (by decide) rfl (fun ls hl => ?_)
              refine lv_goto (tgt := 5) hx hb dX6_append_54 (by decide) ?_
              exact ih5  (k + 1) (t + 1) ((by omega)) ((by rw [ht]; show _ = sm (bC p) k + bC p k; rw [show bC p k = 1 from by unfold bC; rw [if_neg c4, if_pos ⟨by omega, by omega⟩]] <;> rfl)) ((fun j hj => by rcases (show j < k ∨ j = k by omega) with h | h; exact hb1 j h; subst h; rw [show bC p j = 1 from by unfold bC; rw [if_neg c4, if_pos ⟨by omega, by omega⟩]]; decide)) (by omega) ls (lv_sub hl [0, 1, 3, 4] rfl)
            · have hbad := ap_bad hk4 c4 (fun q => by omega)
              exact nv_throwW (ws := wsX6_append) (ik := 168) (is := 359) (ic := 172) (cls := "java/lang/IllegalArgumentException") (text := "a byte is not from 32 to 126") (names := ["java/lang/RuntimeException", "java/lang/Exception"]) hq hx hb hl9 hown hts hT xIAE_fit ⟨by decide +kernel, by decide +kernel⟩ ⟨by decide +kernel, by decide +kernel⟩ (fun w hw => List.mem_cons_of_mem _ (List.mem_append_left _ (List.mem_append_left _ (List.mem_append_right _ hw)))) xIAE_bad xIAE_ok hS (hl.1.trans hml.symm) dX6_append_37 dX6_append_40 dX6_append_41 dX6_append_44 dX6_append_47 hout (by decide) (Nat.le_of_ble_eq_true rfl) (Nat.le_of_ble_eq_true rfl) (Nat.le_of_ble_eq_true rfl) hlocks (Nat.le_of_ble_eq_true rfl) (Nat.le_of_ble_eq_true rfl) (by rw [if_pos hbad]; exact Nat.succ_ne_zero _) (by rw [if_pos hbad] <;> rfl) (fun H1 h9 => by rw [if_pos hbad, if_pos hbad]; exact (cJ.grow (show cJ D cI cC cD cR AD u Sv Hi In Le hs ch ty wy ln ea ra wd _ from ⟨hPo, hPh, ⟨V9, _, o9, pl9, vc9, rfl, hPi⟩, hPs, hPp, hPw, hPt⟩) h9).W hR hk)
  exact hloop1 _ 0 0 ((Nat.zero_le _)) (rfl) ((fun j hj => absurd hj (Nat.not_lt_zero j))) (Nat.lt_succ_self _) ls (lv_sub hl [0, 1, 2, 3] rfl)
