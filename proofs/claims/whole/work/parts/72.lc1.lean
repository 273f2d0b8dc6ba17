set_option maxHeartbeats 1000000 in
set_option maxRecDepth 100000 in
theorem lc_thresholdOf {p : Program} {l : Launch} {e : Env} {s : State} {m : MethodId} {args : Array Value} {below : List Frame} {meth : Method} {c : Code} {H : Heap} {locs : List Loc} {Q : State → Prop} {ls : Array Slot} {D : va_G} {cI cC cD cR cL cB : ClassId} {sa : sA} {AD : Nat → Nat} {h aG aB aH aS aI aL aT o oD b9 L : Nat} {xs : Nat → Int32} {k : Nat} (hC : lC p l s m args c D cI cC cD cR cL cB sa AD h aG aB aH aS aI aL aT o oD b9 L xs) (hk : 6 * k + 6 ≤ L) (hLI : lI D cI cC cD cR cL cB AD h aG aB aH aS aI aL aT o oD k H) (hS : va_S (lAN s) s.heap H locs) (hl : lv_has ls 9 [(0, .ref b9), (1, .ref (AD 0)), (2, .ref h), (3, .ref o), (4, .ref oD), (5, .int (nI (6 * k)))])
    (K : ∀ (H1 : Heap) (locs1 : List Loc) (ls1 : Array Slot), lI D cI cC cD cR cL cB AD h aG aB aH aS aI aL aT o oD (k + 1) H1 → va_S (lAN s) s.heap H1 locs1 → lv_has ls1 9 [(0, .ref b9), (1, .ref (AD 0)), (2, .ref h), (3, .ref o), (4, .ref oD), (5, .int (nI (6 * k)))] → W p l e room_1 s m args below meth c H1 locs1 (175 + 3 * (k + 1)) (3554 + 18 * (k + 1)) Q (F0 m 2679 ls1 [])) : W p l e room_1 s m args below meth c H locs (175 + 3 * k) (3554 + 18 * k) Q (F0 m 785 ls []) := by
  obtain ⟨hx, hb, hml, hown, hts, hl9, hXs, hbl, hL, hT, hX, hI, hAD, ho9, hoD9, hne, hD7⟩ := hC
  obtain ⟨G, B, Hi, Sv, In, Le, To, ch, hs, ty, wy, ln, th, sp, iw, ea, ra, wd, hP7, hcW, hF, hO, hOB⟩ := hLI
  obtain ⟨b, hG, h25, hbt, -, hch, hHg, hhs, hSg, hty, hS7, hln, hLe, hwy⟩ := id hF
  have hk512 : k < 512 := by omega
  have hbb : b + 1 < 2 ^ 20 := by omega
  have hb32 : b + 32 < 2 ^ 20 := by omega
  have h13 : b < 8192 := by omega
  have hHw : ∀ j, j < ch → hAt Hi j 0 ≤ 8 ∧ hAt Hi j 1 ≤ 6 ∧ hAt Hi j 2 ≤ 5 := fun j hj => ⟨(hHg j hj).2.2.1, (hHg j hj).2.2.2.1, (hHg j hj).2.2.2.2.1⟩
  have hSw : hs = 1 → Sv 0 ≤ 8 ∧ Sv 1 ≤ 6 ∧ Sv 2 ≤ 5 := fun q => ⟨(hSg q).2.2.1, (hSg q).2.2.2.1, (hSg q).2.2.2.2.1⟩
  have ho := ho9.2
  have hoD := hoD9.2
  have hK7 : kS D [(cI, .int), (cC, .char)] [] s := ⟨hT.1.1.sub [0, 1] rfl, fun _ h9 => nomatch h9⟩
  have hA7 : ∀ q, l7 s AD o oD q → lAN s q := fun _ h9 => h9.1
  refine lv_aload_n hx hb dL_law_785 rfl (lv_at hl 1 rfl) ?_
  refine lv_aload_n hx hb dL_law_786 rfl (lv_at hl 0 rfl) ?_
  refine lv_iload hx hb dL_law_787 (lv_at hl 5 rfl) ?_
  refine lv_iconst (v := nI 1) hx hb dL_law_789 (by decide) ?_
  refine nv_iadd hx hb dL_law_790 ?_
  refine nv_sld hx hb hXs hbl hS (by omega) hL dL_law_791 ?_
  refine lv_aload_n hx hb dL_law_792 rfl (lv_at hl 0 rfl) ?_
  refine lv_iload hx hb dL_law_793 (lv_at hl 5 rfl) ?_
  refine lv_iconst (v := nI 2) hx hb dL_law_795 (by decide) ?_
  refine nv_iadd hx hb dL_law_796 ?_
  refine nv_sld hx hb hXs hbl hS (by omega) hL dL_law_797 ?_
  refine lv_aload_n hx hb dL_law_798 rfl (lv_at hl 3 rfl) ?_
  refine nv_kN (vx_runSX (hh := [(0, 10, 13, 15), (0, 10, 17, 13)]) (As := [.ref (AD 0), .int (xs (6 * k + 1)), .int (xs (6 * k + 2)), .ref o]) (rest := []) ⟨hx, hb, hml, hown, hts⟩ (c_L_thresholdOf l hl9 ho hG hI (xs (6 * k + 1)) (xs (6 * k + 2))) (vx_cwSW 4 hts gL_law_L_thresholdOf rfl rfl rfl (by decide +kernel) ⟨Nat.le_of_ble_eq_true rfl, Nat.le_of_ble_eq_true rfl⟩) (nl_pS hT hX hS (fun q h9 => h9.elim (fun ⟨i, _, hi, e9⟩ => by rw [e9]; exact hAD i hi) (fun e9 => by rw [e9]; exact ho9.1)) ⟨hcW, hO⟩) rfl rfl hl.1 rfl (lv_room (Nat.le_of_ble_eq_true rfl)) dL_law_799 ⟨(show 175 + 3 * k + 1 ≤ 603072 by omega), (show 3554 + 18 * k + 6 ≤ 7219306 by omega)⟩) hS (fun q h9 => h9.elim (fun ⟨i, _, hi, e9⟩ => by rw [e9]; exact hAD i hi) (fun e9 => by rw [e9]; exact ho9.1)) (fun H1 locs1 hP1 hK1 hS1 => ?_)
  obtain ⟨hcW, hO9⟩ := hP1
  have hP7 := nv_keep7 (hD7 G B Hi Sv In Le To _) hP7 hK1 (fun q h9 h8 => h8.elim h9.2.1 (fun e9 => h9.2.2.1 e9))
  have hOB := hOB.kept hK1 (fun h8 => h8.elim hoD (fun e9 => hne e9.symm))
  have hO := hO9
  have hS := hS1
  refine lv_istore (lv' := [(6, .int (nI ((if iR (xs (6 * k + 1)) (G 1) then (if (xs (6 * k + 2)) = nI 0 ∨ (xs (6 * k + 2)) = nI 1 then 0 else 2) else 1)))), (0, .ref b9), (1, .ref (AD 0)), (2, .ref h), (3, .ref o), (4, .ref oD), (5, .int (nI (6 * k)))]) hx hb dL_law_802 hl (by decide) rfl (fun ls hl => ?_)
  refine lv_aload_n hx hb dL_law_804 rfl (lv_at hl 3 rfl) ?_
  refine lv_aload_n hx hb dL_law_805 rfl (lv_at hl 1 rfl) ?_
  refine lv_iload hx hb dL_law_806 (lv_at hl 6 rfl) ?_
  refine lv_iconst (v := nI 1) hx hb dL_law_808 (by decide) ?_
  refine nv_iadd hx hb dL_law_809 ?_
  refine nv_sld hx hb hXs hbl hS (by omega) hL dL_law_810 ?_
  refine lv_aload_n hx hb dL_law_811 rfl (lv_at hl 1 rfl) ?_
  refine lv_iload hx hb dL_law_812 (lv_at hl 6 rfl) ?_
  refine lv_iconst (v := nI 2) hx hb dL_law_814 (by decide) ?_
  refine nv_iadd hx hb dL_law_815 ?_
  refine nv_sld hx hb hXs hbl hS (by omega) hL dL_law_816 ?_
  refine nv_kM2 (va_runV (As := [.int (xs (6 * k + 1)), .int (xs (6 * k + 2))]) (rest := []) ⟨hx, hb, hml, hown, hts⟩ (c_X7_thresholdOf l hD7 hG (xs (6 * k + 1)) (xs (6 * k + 2))) (cwV 2 hts gL_law_X7_thresholdOf rfl rfl rfl (by decide +kernel) ⟨Nat.le_of_ble_eq_true rfl, Nat.le_of_ble_eq_true rfl⟩) (nv_pV hK7 hP7 (va_recv hT.1.1 hP7 (ci := 9) (q0 := 0) rfl rfl)) rfl rfl hl.1 rfl (lv_room (Nat.le_of_ble_eq_true rfl)) dL_law_817 ⟨(show 175 + 3 * k + 1 + 0 ≤ 603072 by omega), (show 3554 + 18 * k + 6 + 0 ≤ 7219306 by omega)⟩) hS hA7 (fun H2 locs2 hP2 hK2 hS2 => ?_)
  have hP7 := hP2
  have hcW := cOn_W (l7 s AD o oD) _ _ (fun i _ hi h9 => h9.2.1 ⟨i, Nat.zero_le _, hi, rfl⟩) hK2 hcW
  have hO := hO.kept hK2 (fun h9 => h9.2.2.1 rfl)
  have hOB := hOB.kept hK2 (fun h9 => h9.2.2.2 rfl)
  have hS := hS2
  have hF9 := hF.next hk512
  refine lv_istore (lv' := [(7, .int (((if iR (xs (6 * k + 1)) (G 1) then (if (xs (6 * k + 2)) = nI 0 then nI (G (112 + tN (xs (6 * k + 1)))) else (if (xs (6 * k + 2)) = nI 1 then nI (gStand G (tN (xs (6 * k + 1)))) else 0)) else 0)))), (6, .int (nI ((if iR (xs (6 * k + 1)) (G 1) then (if (xs (6 * k + 2)) = nI 0 ∨ (xs (6 * k + 2)) = nI 1 then 0 else 2) else 1)))), (0, .ref b9), (1, .ref (AD 0)), (2, .ref h), (3, .ref o), (4, .ref oD), (5, .int (nI (6 * k)))]) hx hb dL_law_820 hl (by decide) rfl (fun ls hl => ?_)
  refine lv_aload_n hx hb dL_law_822 rfl (lv_at hl 4 rfl) ?_
  refine nv_kS (va_runV (As := []) (rest := []) ⟨hx, hb, hml, hown, hts⟩ (c_X7_thrown l) (cwV 0 hts gL_law_X7_thrown rfl rfl rfl (by decide +kernel) ⟨Nat.le_of_ble_eq_true rfl, Nat.le_of_ble_eq_true rfl⟩) (nv_pV hK7 hP7 (va_recv hT.1.1 hP7 (ci := 9) (q0 := 0) rfl rfl)) rfl rfl hl.1 rfl (lv_room (Nat.le_of_ble_eq_true rfl)) dL_law_823 ⟨(show 175 + 3 * k + 1 + 0 + 0 ≤ 603072 by omega), (show 3554 + 18 * k + 6 + 0 + 0 ≤ 7219306 by omega)⟩) ?_
  refine lv_iload hx hb dL_law_826 (lv_at hl 1 rfl) ?_
  refine lv_icmp_eq (tgt := 833) hx hb dL_law_828 (by decide) (fun _ => ?_) (fun h9 => absurd rfl h9)
  refine lv_iload hx hb dL_law_833 (lv_at hl 1 rfl) ?_
  refine lv_if_ne (tgt := 850) hx hb dL_law_835 (by decide) (fun _ => lv_goto (tgt := 2679) hx hb dL_law_850 (by decide) (W.widen (k := 175 + 3 * (k + 1)) (n := 3554 + 18 * (k + 1)) (by omega) (by omega) (K _ _ _ ⟨_, _, _, _, _, _, _, _, _, _, _, _, _, _, _, _, _, _, hP7, hcW, hF9, hO.imp (fun _ _ => trivial), hOB.imp (fun _ _ => trivial)⟩ hS (lv_sub hl [2, 3, 4, 5, 6, 7] rfl)))) (fun h0 => ?_)
  have ht0 := nv_n0 (t := (if iR (xs (6 * k + 1)) (G 1) then (if (xs (6 * k + 2)) = nI 0 ∨ (xs (6 * k + 2)) = nI 1 then 0 else 2) else 1)) (by (repeat' split) <;> decide) h0
  refine lv_aload_n hx hb dL_law_838 rfl (lv_at hl 5 rfl) ?_
  refine lv_iconst (v := nI 0) hx hb dL_law_839 (by decide) ?_
  refine nv_laldO hx hb hX.1 0 rfl (hO.imp (fun _ z => z ht0)) dL_law_840 ?_
  refine lv_iload hx hb dL_law_841 (lv_at hl 0 rfl) ?_
  refine lv_i2l hx hb dL_law_843 rfl ?_
  refine W.lcmp hx hb dL_law_844 ?_
  exact lv_if_eq (tgt := 850) hx hb dL_law_845 (by decide) (fun _ => lv_goto (tgt := 2679) hx hb dL_law_850 (by decide) (W.widen (k := 175 + 3 * (k + 1)) (n := 3554 + 18 * (k + 1)) (by omega) (by omega) (K _ _ _ ⟨_, _, _, _, _, _, _, _, _, _, _, _, _, _, _, _, _, _, hP7, hcW, hF9, hO.imp (fun _ _ => trivial), hOB.imp (fun _ _ => trivial)⟩ hS (lv_sub hl [2, 3, 4, 5, 6, 7] rfl)))) (fun h9 => absurd (lg_same _) h9)

set_option maxHeartbeats 1000000 in
set_option maxRecDepth 100000 in
theorem lc_ending {p : Program} {l : Launch} {e : Env} {s : State} {m : MethodId} {args : Array Value} {below : List Frame} {meth : Method} {c : Code} {H : Heap} {locs : List Loc} {Q : State → Prop} {ls : Array Slot} {D : va_G} {cI cC cD cR cL cB : ClassId} {sa : sA} {AD : Nat → Nat} {h aG aB aH aS aI aL aT o oD b9 L : Nat} {xs : Nat → Int32} {k : Nat} (hC : lC p l s m args c D cI cC cD cR cL cB sa AD h aG aB aH aS aI aL aT o oD b9 L xs) (hk : 6 * k + 6 ≤ L) (hLI : lI D cI cC cD cR cL cB AD h aG aB aH aS aI aL aT o oD k H) (hS : va_S (lAN s) s.heap H locs) (hl : lv_has ls 9 [(0, .ref b9), (1, .ref (AD 0)), (2, .ref h), (3, .ref o), (4, .ref oD), (5, .int (nI (6 * k)))])
    (K : ∀ (H1 : Heap) (locs1 : List Loc) (ls1 : Array Slot), lI D cI cC cD cR cL cB AD h aG aB aH aS aI aL aT o oD (k + 1) H1 → va_S (lAN s) s.heap H1 locs1 → lv_has ls1 9 [(0, .ref b9), (1, .ref (AD 0)), (2, .ref h), (3, .ref o), (4, .ref oD), (5, .int (nI (6 * k)))] → W p l e room_1 s m args below meth c H1 locs1 (175 + 3 * (k + 1)) (3554 + 18 * (k + 1)) Q (F0 m 2679 ls1 [])) : W p l e room_1 s m args below meth c H locs (175 + 3 * k) (3554 + 18 * k) Q (F0 m 853 ls []) := by
  obtain ⟨hx, hb, hml, hown, hts, hl9, hXs, hbl, hL, hT, hX, hI, hAD, ho9, hoD9, hne, hD7⟩ := hC
  obtain ⟨G, B, Hi, Sv, In, Le, To, ch, hs, ty, wy, ln, th, sp, iw, ea, ra, wd, hP7, hcW, hF, hO, hOB⟩ := hLI
  obtain ⟨b, hG, h25, hbt, -, hch, hHg, hhs, hSg, hty, hS7, hln, hLe, hwy⟩ := id hF
  have hk512 : k < 512 := by omega
  have hbb : b + 1 < 2 ^ 20 := by omega
  have hb32 : b + 32 < 2 ^ 20 := by omega
  have h13 : b < 8192 := by omega
  have hHw : ∀ j, j < ch → hAt Hi j 0 ≤ 8 ∧ hAt Hi j 1 ≤ 6 ∧ hAt Hi j 2 ≤ 5 := fun j hj => ⟨(hHg j hj).2.2.1, (hHg j hj).2.2.2.1, (hHg j hj).2.2.2.2.1⟩
  have hSw : hs = 1 → Sv 0 ≤ 8 ∧ Sv 1 ≤ 6 ∧ Sv 2 ≤ 5 := fun q => ⟨(hSg q).2.2.1, (hSg q).2.2.2.1, (hSg q).2.2.2.2.1⟩
  have ho := ho9.2
  have hoD := hoD9.2
  have hK7 : kS D [(cI, .int), (cC, .char)] [] s := ⟨hT.1.1.sub [0, 1] rfl, fun _ h9 => nomatch h9⟩
  have hA7 : ∀ q, l7 s AD o oD q → lAN s q := fun _ h9 => h9.1
  refine lv_aload_n hx hb dL_law_853 rfl (lv_at hl 1 rfl) ?_
  refine lv_aload_n hx hb dL_law_854 rfl (lv_at hl 0 rfl) ?_
  refine lv_iload hx hb dL_law_855 (lv_at hl 5 rfl) ?_
  refine lv_iconst (v := nI 1) hx hb dL_law_857 (by decide) ?_
  refine nv_iadd hx hb dL_law_858 ?_
  refine nv_sld hx hb hXs hbl hS (by omega) hL dL_law_859 ?_
  refine lv_aload_n hx hb dL_law_860 rfl (lv_at hl 0 rfl) ?_
  refine lv_iload hx hb dL_law_861 (lv_at hl 5 rfl) ?_
  refine lv_iconst (v := nI 2) hx hb dL_law_863 (by decide) ?_
  refine nv_iadd hx hb dL_law_864 ?_
  refine nv_sld hx hb hXs hbl hS (by omega) hL dL_law_865 ?_
  refine lv_aload_n hx hb dL_law_866 rfl (lv_at hl 0 rfl) ?_
  refine lv_iload hx hb dL_law_867 (lv_at hl 5 rfl) ?_
  refine lv_iconst (v := nI 3) hx hb dL_law_869 (by decide) ?_
  refine nv_iadd hx hb dL_law_870 ?_
  refine nv_sld hx hb hXs hbl hS (by omega) hL dL_law_871 ?_
  refine nv_bool hx hb dL_law_872 dL_law_875 dL_law_876 dL_law_879 ?_
  refine lv_aload_n hx hb dL_law_880 rfl (lv_at hl 3 rfl) ?_
  refine nv_kN (vx_runSX (hh := [(0, 12, 15, 13)]) (As := [.ref (AD 0), .int (xs (6 * k + 1)), .int (xs (6 * k + 2)), .int (nI (if xs (6 * k + 3) = 0 then 0 else 1)), .ref o]) (rest := []) ⟨hx, hb, hml, hown, hts⟩ (c_L_ending l hl9 ho hG hI (xs (6 * k + 1)) (xs (6 * k + 2)) (if xs (6 * k + 3) = 0 then 0 else 1) (nv_b01 _)) (vx_cwSW 5 hts gL_law_L_ending rfl rfl rfl (by decide +kernel) ⟨Nat.le_of_ble_eq_true rfl, Nat.le_of_ble_eq_true rfl⟩) (nl_pS hT hX hS (fun q h9 => h9.elim (fun ⟨i, _, hi, e9⟩ => by rw [e9]; exact hAD i hi) (fun e9 => by rw [e9]; exact ho9.1)) ⟨hcW, hO⟩) rfl rfl hl.1 rfl (lv_room (Nat.le_of_ble_eq_true rfl)) dL_law_881 ⟨(show 175 + 3 * k + 1 ≤ 603072 by omega), (show 3554 + 18 * k + 6 ≤ 7219306 by omega)⟩) hS (fun q h9 => h9.elim (fun ⟨i, _, hi, e9⟩ => by rw [e9]; exact hAD i hi) (fun e9 => by rw [e9]; exact ho9.1)) (fun H1 locs1 hP1 hK1 hS1 => ?_)
  obtain ⟨hcW, hO9⟩ := hP1
  have hP7 := nv_keep7 (hD7 G B Hi Sv In Le To _) hP7 hK1 (fun q h9 h8 => h8.elim h9.2.1 (fun e9 => h9.2.2.1 e9))
  have hOB := hOB.kept hK1 (fun h8 => h8.elim hoD (fun e9 => hne e9.symm))
  have hO := hO9
  have hS := hS1
  refine lv_istore (lv' := [(6, .int (nI ((if iR (xs (6 * k + 1)) 3 ∧ iR (xs (6 * k + 2)) 4 then 0 else 1)))), (0, .ref b9), (1, .ref (AD 0)), (2, .ref h), (3, .ref o), (4, .ref oD), (5, .int (nI (6 * k)))]) hx hb dL_law_884 hl (by decide) rfl (fun ls hl => ?_)
  refine lv_aload_n hx hb dL_law_886 rfl (lv_at hl 3 rfl) ?_
  refine lv_aload_n hx hb dL_law_887 rfl (lv_at hl 1 rfl) ?_
  refine lv_iload hx hb dL_law_888 (lv_at hl 6 rfl) ?_
  refine lv_iconst (v := nI 1) hx hb dL_law_890 (by decide) ?_
  refine nv_iadd hx hb dL_law_891 ?_
  refine nv_sld hx hb hXs hbl hS (by omega) hL dL_law_892 ?_
  refine lv_aload_n hx hb dL_law_893 rfl (lv_at hl 1 rfl) ?_
  refine lv_iload hx hb dL_law_894 (lv_at hl 6 rfl) ?_
  refine lv_iconst (v := nI 2) hx hb dL_law_896 (by decide) ?_
  refine nv_iadd hx hb dL_law_897 ?_
  refine nv_sld hx hb hXs hbl hS (by omega) hL dL_law_898 ?_
  refine lv_aload_n hx hb dL_law_899 rfl (lv_at hl 1 rfl) ?_
  refine lv_iload hx hb dL_law_900 (lv_at hl 6 rfl) ?_
  refine lv_iconst (v := nI 3) hx hb dL_law_902 (by decide) ?_
  refine nv_iadd hx hb dL_law_903 ?_
  refine nv_sld hx hb hXs hbl hS (by omega) hL dL_law_904 ?_
  refine nv_bool hx hb dL_law_905 dL_law_908 dL_law_909 dL_law_912 ?_
  refine nv_kM2 (va_runV (As := [.int (xs (6 * k + 1)), .int (xs (6 * k + 2)), .int (nI (if xs (6 * k + 3) = 0 then 0 else 1))]) (rest := []) ⟨hx, hb, hml, hown, hts⟩ (c_X7_ending l hD7 hG (xs (6 * k + 1)) (xs (6 * k + 2)) (if xs (6 * k + 3) = 0 then 0 else 1) (nv_b01 _)) (cwV 3 hts gL_law_X7_ending rfl rfl rfl (by decide +kernel) ⟨Nat.le_of_ble_eq_true rfl, Nat.le_of_ble_eq_true rfl⟩) (nv_pV hK7 hP7 (va_recv hT.1.1 hP7 (ci := 9) (q0 := 0) rfl rfl)) rfl rfl hl.1 rfl (lv_room (Nat.le_of_ble_eq_true rfl)) dL_law_913 ⟨(show 175 + 3 * k + 1 + 0 ≤ 603072 by omega), (show 3554 + 18 * k + 6 + 0 ≤ 7219306 by omega)⟩) hS hA7 (fun H2 locs2 hP2 hK2 hS2 => ?_)
  have hP7 := hP2
  have hcW := cOn_W (l7 s AD o oD) _ _ (fun i _ hi h9 => h9.2.1 ⟨i, Nat.zero_le _, hi, rfl⟩) hK2 hcW
  have hO := hO.kept hK2 (fun h9 => h9.2.2.1 rfl)
  have hOB := hOB.kept hK2 (fun h9 => h9.2.2.2 rfl)
  have hS := hS2
  have hF9 := hF.next hk512
  refine lv_istore (lv' := [(7, .int (((if iR (xs (6 * k + 1)) 3 ∧ iR (xs (6 * k + 2)) 4 then nI (97 + G (gEndAt (tN (xs (6 * k + 1))) (tN (xs (6 * k + 2))) (if xs (6 * k + 3) = 0 then 0 else 1))) else 0)))), (6, .int (nI ((if iR (xs (6 * k + 1)) 3 ∧ iR (xs (6 * k + 2)) 4 then 0 else 1)))), (0, .ref b9), (1, .ref (AD 0)), (2, .ref h), (3, .ref o), (4, .ref oD), (5, .int (nI (6 * k)))]) hx hb dL_law_916 hl (by decide) rfl (fun ls hl => ?_)
  refine lv_aload_n hx hb dL_law_918 rfl (lv_at hl 4 rfl) ?_
  refine nv_kS (va_runV (As := []) (rest := []) ⟨hx, hb, hml, hown, hts⟩ (c_X7_thrown l) (cwV 0 hts gL_law_X7_thrown rfl rfl rfl (by decide +kernel) ⟨Nat.le_of_ble_eq_true rfl, Nat.le_of_ble_eq_true rfl⟩) (nv_pV hK7 hP7 (va_recv hT.1.1 hP7 (ci := 9) (q0 := 0) rfl rfl)) rfl rfl hl.1 rfl (lv_room (Nat.le_of_ble_eq_true rfl)) dL_law_919 ⟨(show 175 + 3 * k + 1 + 0 + 0 ≤ 603072 by omega), (show 3554 + 18 * k + 6 + 0 + 0 ≤ 7219306 by omega)⟩) ?_
  refine lv_iload hx hb dL_law_922 (lv_at hl 1 rfl) ?_
  refine lv_icmp_eq (tgt := 929) hx hb dL_law_924 (by decide) (fun _ => ?_) (fun h9 => absurd rfl h9)
  refine lv_iload hx hb dL_law_929 (lv_at hl 1 rfl) ?_
  refine lv_if_ne (tgt := 946) hx hb dL_law_931 (by decide) (fun _ => lv_goto (tgt := 2679) hx hb dL_law_946 (by decide) (W.widen (k := 175 + 3 * (k + 1)) (n := 3554 + 18 * (k + 1)) (by omega) (by omega) (K _ _ _ ⟨_, _, _, _, _, _, _, _, _, _, _, _, _, _, _, _, _, _, hP7, hcW, hF9, hO.imp (fun _ _ => trivial), hOB.imp (fun _ _ => trivial)⟩ hS (lv_sub hl [2, 3, 4, 5, 6, 7] rfl)))) (fun h0 => ?_)
  have ht0 := nv_n0 (t := (if iR (xs (6 * k + 1)) 3 ∧ iR (xs (6 * k + 2)) 4 then 0 else 1)) (by (repeat' split) <;> decide) h0
  refine lv_aload_n hx hb dL_law_934 rfl (lv_at hl 5 rfl) ?_
  refine lv_iconst (v := nI 0) hx hb dL_law_935 (by decide) ?_
  refine nv_laldO hx hb hX.1 0 rfl (hO.imp (fun _ z => z ht0)) dL_law_936 ?_
  refine lv_iload hx hb dL_law_937 (lv_at hl 0 rfl) ?_
  refine lv_i2l hx hb dL_law_939 rfl ?_
  refine W.lcmp hx hb dL_law_940 ?_
  exact lv_if_eq (tgt := 946) hx hb dL_law_941 (by decide) (fun _ => lv_goto (tgt := 2679) hx hb dL_law_946 (by decide) (W.widen (k := 175 + 3 * (k + 1)) (n := 3554 + 18 * (k + 1)) (by omega) (by omega) (K _ _ _ ⟨_, _, _, _, _, _, _, _, _, _, _, _, _, _, _, _, _, _, hP7, hcW, hF9, hO.imp (fun _ _ => trivial), hOB.imp (fun _ _ => trivial)⟩ hS (lv_sub hl [2, 3, 4, 5, 6, 7] rfl)))) (fun h9 => absurd (lg_same _) h9)

set_option maxHeartbeats 1000000 in
set_option maxRecDepth 100000 in
theorem lc_areAlike {p : Program} {l : Launch} {e : Env} {s : State} {m : MethodId} {args : Array Value} {below : List Frame} {meth : Method} {c : Code} {H : Heap} {locs : List Loc} {Q : State → Prop} {ls : Array Slot} {D : va_G} {cI cC cD cR cL cB : ClassId} {sa : sA} {AD : Nat → Nat} {h aG aB aH aS aI aL aT o oD b9 L : Nat} {xs : Nat → Int32} {k : Nat} (hC : lC p l s m args c D cI cC cD cR cL cB sa AD h aG aB aH aS aI aL aT o oD b9 L xs) (hk : 6 * k + 6 ≤ L) (hLI : lI D cI cC cD cR cL cB AD h aG aB aH aS aI aL aT o oD k H) (hS : va_S (lAN s) s.heap H locs) (hl : lv_has ls 9 [(0, .ref b9), (1, .ref (AD 0)), (2, .ref h), (3, .ref o), (4, .ref oD), (5, .int (nI (6 * k)))])
    (K : ∀ (H1 : Heap) (locs1 : List Loc) (ls1 : Array Slot), lI D cI cC cD cR cL cB AD h aG aB aH aS aI aL aT o oD (k + 1) H1 → va_S (lAN s) s.heap H1 locs1 → lv_has ls1 9 [(0, .ref b9), (1, .ref (AD 0)), (2, .ref h), (3, .ref o), (4, .ref oD), (5, .int (nI (6 * k)))] → W p l e room_1 s m args below meth c H1 locs1 (175 + 3 * (k + 1)) (3554 + 18 * (k + 1)) Q (F0 m 2679 ls1 [])) : W p l e room_1 s m args below meth c H locs (175 + 3 * k) (3554 + 18 * k) Q (F0 m 949 ls []) := by
  obtain ⟨hx, hb, hml, hown, hts, hl9, hXs, hbl, hL, hT, hX, hI, hAD, ho9, hoD9, hne, hD7⟩ := hC
  obtain ⟨G, B, Hi, Sv, In, Le, To, ch, hs, ty, wy, ln, th, sp, iw, ea, ra, wd, hP7, hcW, hF, hO, hOB⟩ := hLI
  obtain ⟨b, hG, h25, hbt, -, hch, hHg, hhs, hSg, hty, hS7, hln, hLe, hwy⟩ := id hF
  have hk512 : k < 512 := by omega
  have hbb : b + 1 < 2 ^ 20 := by omega
  have hb32 : b + 32 < 2 ^ 20 := by omega
  have h13 : b < 8192 := by omega
  have hHw : ∀ j, j < ch → hAt Hi j 0 ≤ 8 ∧ hAt Hi j 1 ≤ 6 ∧ hAt Hi j 2 ≤ 5 := fun j hj => ⟨(hHg j hj).2.2.1, (hHg j hj).2.2.2.1, (hHg j hj).2.2.2.2.1⟩
  have hSw : hs = 1 → Sv 0 ≤ 8 ∧ Sv 1 ≤ 6 ∧ Sv 2 ≤ 5 := fun q => ⟨(hSg q).2.2.1, (hSg q).2.2.2.1, (hSg q).2.2.2.2.1⟩
  have ho := ho9.2
  have hoD := hoD9.2
  have hK7 : kS D [(cI, .int), (cC, .char)] [] s := ⟨hT.1.1.sub [0, 1] rfl, fun _ h9 => nomatch h9⟩
  have hA7 : ∀ q, l7 s AD o oD q → lAN s q := fun _ h9 => h9.1
  refine lv_aload_n hx hb dL_law_949 rfl (lv_at hl 1 rfl) ?_
  refine lv_aload_n hx hb dL_law_950 rfl (lv_at hl 0 rfl) ?_
  refine lv_iload hx hb dL_law_951 (lv_at hl 5 rfl) ?_
  refine lv_iconst (v := nI 1) hx hb dL_law_953 (by decide) ?_
  refine nv_iadd hx hb dL_law_954 ?_
  refine nv_sld hx hb hXs hbl hS (by omega) hL dL_law_955 ?_
  refine lv_aload_n hx hb dL_law_956 rfl (lv_at hl 0 rfl) ?_
  refine lv_iload hx hb dL_law_957 (lv_at hl 5 rfl) ?_
  refine lv_iconst (v := nI 2) hx hb dL_law_959 (by decide) ?_
  refine nv_iadd hx hb dL_law_960 ?_
  refine nv_sld hx hb hXs hbl hS (by omega) hL dL_law_961 ?_
  refine lv_aload_n hx hb dL_law_962 rfl (lv_at hl 0 rfl) ?_
  refine lv_iload hx hb dL_law_963 (lv_at hl 5 rfl) ?_
  refine lv_iconst (v := nI 3) hx hb dL_law_965 (by decide) ?_
  refine nv_iadd hx hb dL_law_966 ?_
  refine nv_sld hx hb hXs hbl hS (by omega) hL dL_law_967 ?_
  refine nv_bool hx hb dL_law_968 dL_law_971 dL_law_972 dL_law_975 ?_
  refine lv_aload_n hx hb dL_law_976 rfl (lv_at hl 3 rfl) ?_
  refine nv_kN (vx_runSX (hh := [(0, 19, 22, 15)]) (As := [.ref (AD 0), .int (xs (6 * k + 1)), .int (xs (6 * k + 2)), .int (nI (if xs (6 * k + 3) = 0 then 0 else 1)), .ref o]) (rest := []) ⟨hx, hb, hml, hown, hts⟩ (c_L_areAlike l hl9 ho hG hI (xs (6 * k + 1)) (xs (6 * k + 2)) (if xs (6 * k + 3) = 0 then 0 else 1) (nv_b01 _)) (vx_cwSW 5 hts gL_law_L_areAlike rfl rfl rfl (by decide +kernel) ⟨Nat.le_of_ble_eq_true rfl, Nat.le_of_ble_eq_true rfl⟩) (nl_pS hT hX hS (fun q h9 => h9.elim (fun ⟨i, _, hi, e9⟩ => by rw [e9]; exact hAD i hi) (fun e9 => by rw [e9]; exact ho9.1)) ⟨hcW, hO⟩) rfl rfl hl.1 rfl (lv_room (Nat.le_of_ble_eq_true rfl)) dL_law_977 ⟨(show 175 + 3 * k + 2 ≤ 603072 by omega), (show 3554 + 18 * k + 12 ≤ 7219306 by omega)⟩) hS (fun q h9 => h9.elim (fun ⟨i, _, hi, e9⟩ => by rw [e9]; exact hAD i hi) (fun e9 => by rw [e9]; exact ho9.1)) (fun H1 locs1 hP1 hK1 hS1 => ?_)
  obtain ⟨hcW, hO9⟩ := hP1
  have hP7 := nv_keep7 (hD7 G B Hi Sv In Le To _) hP7 hK1 (fun q h9 h8 => h8.elim h9.2.1 (fun e9 => h9.2.2.1 e9))
  have hOB := hOB.kept hK1 (fun h8 => h8.elim hoD (fun e9 => hne e9.symm))
  have hO := hO9
  have hS := hS1
  refine lv_istore (lv' := [(6, .int (nI ((if iR (xs (6 * k + 1)) (G 0) ∧ iR (xs (6 * k + 2)) (G 0) then 0 else 1)))), (0, .ref b9), (1, .ref (AD 0)), (2, .ref h), (3, .ref o), (4, .ref oD), (5, .int (nI (6 * k)))]) hx hb dL_law_980 hl (by decide) rfl (fun ls hl => ?_)
  refine lv_aload_n hx hb dL_law_982 rfl (lv_at hl 3 rfl) ?_
  refine lv_aload_n hx hb dL_law_983 rfl (lv_at hl 1 rfl) ?_
  refine lv_iload hx hb dL_law_984 (lv_at hl 6 rfl) ?_
  refine lv_iconst (v := nI 1) hx hb dL_law_986 (by decide) ?_
  refine nv_iadd hx hb dL_law_987 ?_
  refine nv_sld hx hb hXs hbl hS (by omega) hL dL_law_988 ?_
  refine lv_aload_n hx hb dL_law_989 rfl (lv_at hl 1 rfl) ?_
  refine lv_iload hx hb dL_law_990 (lv_at hl 6 rfl) ?_
  refine lv_iconst (v := nI 2) hx hb dL_law_992 (by decide) ?_
  refine nv_iadd hx hb dL_law_993 ?_
  refine nv_sld hx hb hXs hbl hS (by omega) hL dL_law_994 ?_
  refine lv_aload_n hx hb dL_law_995 rfl (lv_at hl 1 rfl) ?_
  refine lv_iload hx hb dL_law_996 (lv_at hl 6 rfl) ?_
  refine lv_iconst (v := nI 3) hx hb dL_law_998 (by decide) ?_
  refine nv_iadd hx hb dL_law_999 ?_
  refine nv_sld hx hb hXs hbl hS (by omega) hL dL_law_1000 ?_
  refine nv_bool hx hb dL_law_1001 dL_law_1004 dL_law_1005 dL_law_1008 ?_
  refine nv_kM2 (va_runV (As := [.int (xs (6 * k + 1)), .int (xs (6 * k + 2)), .int (nI (if xs (6 * k + 3) = 0 then 0 else 1))]) (rest := []) ⟨hx, hb, hml, hown, hts⟩ (c_X7_areAlike l hD7 hG (xs (6 * k + 1)) (xs (6 * k + 2)) (if xs (6 * k + 3) = 0 then 0 else 1)) (cwV 3 hts gL_law_X7_areAlike rfl rfl rfl (by decide +kernel) ⟨Nat.le_of_ble_eq_true rfl, Nat.le_of_ble_eq_true rfl⟩) (nv_pV hK7 hP7 (va_recv hT.1.1 hP7 (ci := 9) (q0 := 0) rfl rfl)) rfl rfl hl.1 rfl (lv_room (Nat.le_of_ble_eq_true rfl)) dL_law_1009 ⟨(show 175 + 3 * k + 2 + 0 ≤ 603072 by omega), (show 3554 + 18 * k + 12 + 0 ≤ 7219306 by omega)⟩) hS hA7 (fun H2 locs2 hP2 hK2 hS2 => ?_)
  have hP7 := hP2
  have hcW := cOn_W (l7 s AD o oD) _ _ (fun i _ hi h9 => h9.2.1 ⟨i, Nat.zero_le _, hi, rfl⟩) hK2 hcW
  have hO := hO.kept hK2 (fun h9 => h9.2.2.1 rfl)
  have hOB := hOB.kept hK2 (fun h9 => h9.2.2.2 rfl)
  have hS := hS2
  have hF9 := hF.next hk512
  refine lv_istore (lv' := [(7, .int ((nI (bI ((iR (xs (6 * k + 1)) (G 0) ∧ iR (xs (6 * k + 2)) (G 0)) ∧ gAlike G (tN (xs (6 * k + 1))) (tN (xs (6 * k + 2)))))))), (6, .int (nI ((if iR (xs (6 * k + 1)) (G 0) ∧ iR (xs (6 * k + 2)) (G 0) then 0 else 1)))), (0, .ref b9), (1, .ref (AD 0)), (2, .ref h), (3, .ref o), (4, .ref oD), (5, .int (nI (6 * k)))]) hx hb dL_law_1012 hl (by decide) rfl (fun ls hl => ?_)
  refine lv_aload_n hx hb dL_law_1014 rfl (lv_at hl 4 rfl) ?_
  refine nv_kS (va_runV (As := []) (rest := []) ⟨hx, hb, hml, hown, hts⟩ (c_X7_thrown l) (cwV 0 hts gL_law_X7_thrown rfl rfl rfl (by decide +kernel) ⟨Nat.le_of_ble_eq_true rfl, Nat.le_of_ble_eq_true rfl⟩) (nv_pV hK7 hP7 (va_recv hT.1.1 hP7 (ci := 9) (q0 := 0) rfl rfl)) rfl rfl hl.1 rfl (lv_room (Nat.le_of_ble_eq_true rfl)) dL_law_1015 ⟨(show 175 + 3 * k + 2 + 0 + 0 ≤ 603072 by omega), (show 3554 + 18 * k + 12 + 0 + 0 ≤ 7219306 by omega)⟩) ?_
  refine lv_iload hx hb dL_law_1018 (lv_at hl 1 rfl) ?_
  refine lv_icmp_eq (tgt := 1025) hx hb dL_law_1020 (by decide) (fun _ => ?_) (fun h9 => absurd rfl h9)
  refine lv_iload hx hb dL_law_1025 (lv_at hl 1 rfl) ?_
  refine lv_if_ne (tgt := 1049) hx hb dL_law_1027 (by decide) (fun _ => lv_goto (tgt := 2679) hx hb dL_law_1049 (by decide) (W.widen (k := 175 + 3 * (k + 1)) (n := 3554 + 18 * (k + 1)) (by omega) (by omega) (K _ _ _ ⟨_, _, _, _, _, _, _, _, _, _, _, _, _, _, _, _, _, _, hP7, hcW, hF9, hO.imp (fun _ _ => trivial), hOB.imp (fun _ _ => trivial)⟩ hS (lv_sub hl [2, 3, 4, 5, 6, 7] rfl)))) (fun h0 => ?_)
  have ht0 := nv_n0 (t := (if iR (xs (6 * k + 1)) (G 0) ∧ iR (xs (6 * k + 2)) (G 0) then 0 else 1)) (by (repeat' split) <;> decide) h0
  refine lv_aload_n hx hb dL_law_1030 rfl (lv_at hl 5 rfl) ?_
  refine lv_iconst (v := nI 0) hx hb dL_law_1031 (by decide) ?_
  refine nv_laldO hx hb hX.1 0 rfl (hO.imp (fun _ z => z ht0)) dL_law_1032 ?_
  refine lv_iload hx hb dL_law_1033 (lv_at hl 0 rfl) ?_
  refine nv_b2lc (P9 := ((iR (xs (6 * k + 1)) (G 0) ∧ iR (xs (6 * k + 2)) (G 0)) ∧ gAlike G (tN (xs (6 * k + 1))) (tN (xs (6 * k + 2))))) hx hb dL_law_1035 dL_law_1038 dL_law_1039 dL_law_1042 ?_
  refine W.lcmp hx hb dL_law_1043 ?_
  exact lv_if_eq (tgt := 1049) hx hb dL_law_1044 (by decide) (fun _ => lv_goto (tgt := 2679) hx hb dL_law_1049 (by decide) (W.widen (k := 175 + 3 * (k + 1)) (n := 3554 + 18 * (k + 1)) (by omega) (by omega) (K _ _ _ ⟨_, _, _, _, _, _, _, _, _, _, _, _, _, _, _, _, _, _, hP7, hcW, hF9, hO.imp (fun _ _ => trivial), hOB.imp (fun _ _ => trivial)⟩ hS (lv_sub hl [2, 3, 4, 5, 6, 7] rfl)))) (fun h9 => absurd (lg_same _) h9)

set_option maxHeartbeats 1000000 in
set_option maxRecDepth 100000 in
theorem lc_couldBe {p : Program} {l : Launch} {e : Env} {s : State} {m : MethodId} {args : Array Value} {below : List Frame} {meth : Method} {c : Code} {H : Heap} {locs : List Loc} {Q : State → Prop} {ls : Array Slot} {D : va_G} {cI cC cD cR cL cB : ClassId} {sa : sA} {AD : Nat → Nat} {h aG aB aH aS aI aL aT o oD b9 L : Nat} {xs : Nat → Int32} {k : Nat} (hC : lC p l s m args c D cI cC cD cR cL cB sa AD h aG aB aH aS aI aL aT o oD b9 L xs) (hk : 6 * k + 6 ≤ L) (hLI : lI D cI cC cD cR cL cB AD h aG aB aH aS aI aL aT o oD k H) (hS : va_S (lAN s) s.heap H locs) (hl : lv_has ls 9 [(0, .ref b9), (1, .ref (AD 0)), (2, .ref h), (3, .ref o), (4, .ref oD), (5, .int (nI (6 * k)))])
    (K : ∀ (H1 : Heap) (locs1 : List Loc) (ls1 : Array Slot), lI D cI cC cD cR cL cB AD h aG aB aH aS aI aL aT o oD (k + 1) H1 → va_S (lAN s) s.heap H1 locs1 → lv_has ls1 9 [(0, .ref b9), (1, .ref (AD 0)), (2, .ref h), (3, .ref o), (4, .ref oD), (5, .int (nI (6 * k)))] → W p l e room_1 s m args below meth c H1 locs1 (175 + 3 * (k + 1)) (3554 + 18 * (k + 1)) Q (F0 m 2679 ls1 [])) : W p l e room_1 s m args below meth c H locs (175 + 3 * k) (3554 + 18 * k) Q (F0 m 1052 ls []) := by
  obtain ⟨hx, hb, hml, hown, hts, hl9, hXs, hbl, hL, hT, hX, hI, hAD, ho9, hoD9, hne, hD7⟩ := hC
  obtain ⟨G, B, Hi, Sv, In, Le, To, ch, hs, ty, wy, ln, th, sp, iw, ea, ra, wd, hP7, hcW, hF, hO, hOB⟩ := hLI
  obtain ⟨b, hG, h25, hbt, -, hch, hHg, hhs, hSg, hty, hS7, hln, hLe, hwy⟩ := id hF
  have hk512 : k < 512 := by omega
  have hbb : b + 1 < 2 ^ 20 := by omega
  have hb32 : b + 32 < 2 ^ 20 := by omega
  have h13 : b < 8192 := by omega
  have hHw : ∀ j, j < ch → hAt Hi j 0 ≤ 8 ∧ hAt Hi j 1 ≤ 6 ∧ hAt Hi j 2 ≤ 5 := fun j hj => ⟨(hHg j hj).2.2.1, (hHg j hj).2.2.2.1, (hHg j hj).2.2.2.2.1⟩
  have hSw : hs = 1 → Sv 0 ≤ 8 ∧ Sv 1 ≤ 6 ∧ Sv 2 ≤ 5 := fun q => ⟨(hSg q).2.2.1, (hSg q).2.2.2.1, (hSg q).2.2.2.2.1⟩
  have ho := ho9.2
  have hoD := hoD9.2
  have hK7 : kS D [(cI, .int), (cC, .char)] [] s := ⟨hT.1.1.sub [0, 1] rfl, fun _ h9 => nomatch h9⟩
  have hA7 : ∀ q, l7 s AD o oD q → lAN s q := fun _ h9 => h9.1
  refine lv_aload_n hx hb dL_law_1052 rfl (lv_at hl 1 rfl) ?_
  refine lv_aload_n hx hb dL_law_1053 rfl (lv_at hl 0 rfl) ?_
  refine lv_iload hx hb dL_law_1054 (lv_at hl 5 rfl) ?_
  refine lv_iconst (v := nI 1) hx hb dL_law_1056 (by decide) ?_
  refine nv_iadd hx hb dL_law_1057 ?_
  refine nv_sld hx hb hXs hbl hS (by omega) hL dL_law_1058 ?_
  refine lv_aload_n hx hb dL_law_1059 rfl (lv_at hl 3 rfl) ?_
  refine nv_kN (vx_runSX (hh := [(0, 9, 12, 15)]) (As := [.ref (AD 0), .int (xs (6 * k + 1)), .ref o]) (rest := []) ⟨hx, hb, hml, hown, hts⟩ (c_L_couldBe l hl9 ho hG hI (xs (6 * k + 1))) (vx_cwSW 3 hts gL_law_L_couldBe rfl rfl rfl (by decide +kernel) ⟨Nat.le_of_ble_eq_true rfl, Nat.le_of_ble_eq_true rfl⟩) (nl_pS hT hX hS (fun q h9 => h9.elim (fun ⟨i, _, hi, e9⟩ => by rw [e9]; exact hAD i hi) (fun e9 => by rw [e9]; exact ho9.1)) ⟨hcW, hO⟩) rfl rfl hl.1 rfl (lv_room (Nat.le_of_ble_eq_true rfl)) dL_law_1060 ⟨(show 175 + 3 * k + 1 ≤ 603072 by omega), (show 3554 + 18 * k + 6 ≤ 7219306 by omega)⟩) hS (fun q h9 => h9.elim (fun ⟨i, _, hi, e9⟩ => by rw [e9]; exact hAD i hi) (fun e9 => by rw [e9]; exact ho9.1)) (fun H1 locs1 hP1 hK1 hS1 => ?_)
  obtain ⟨hcW, hO9⟩ := hP1
  have hP7 := nv_keep7 (hD7 G B Hi Sv In Le To _) hP7 hK1 (fun q h9 h8 => h8.elim h9.2.1 (fun e9 => h9.2.2.1 e9))
  have hOB := hOB.kept hK1 (fun h8 => h8.elim hoD (fun e9 => hne e9.symm))
  have hO := hO9
  have hS := hS1
  refine lv_istore (lv' := [(6, .int (nI ((if iR (xs (6 * k + 1)) (G 0) then 0 else 1)))), (0, .ref b9), (1, .ref (AD 0)), (2, .ref h), (3, .ref o), (4, .ref oD), (5, .int (nI (6 * k)))]) hx hb dL_law_1063 hl (by decide) rfl (fun ls hl => ?_)
  refine lv_aload_n hx hb dL_law_1065 rfl (lv_at hl 3 rfl) ?_
  refine lv_aload_n hx hb dL_law_1066 rfl (lv_at hl 1 rfl) ?_
  refine lv_iload hx hb dL_law_1067 (lv_at hl 6 rfl) ?_
  refine lv_iconst (v := nI 1) hx hb dL_law_1069 (by decide) ?_
  refine nv_iadd hx hb dL_law_1070 ?_
  refine nv_sld hx hb hXs hbl hS (by omega) hL dL_law_1071 ?_
  refine nv_kM2 (va_runV (As := [.int (xs (6 * k + 1))]) (rest := []) ⟨hx, hb, hml, hown, hts⟩ (c_X7_couldBe l hD7 hG (xs (6 * k + 1))) (cwV 1 hts gL_law_X7_couldBe rfl rfl rfl (by decide +kernel) ⟨Nat.le_of_ble_eq_true rfl, Nat.le_of_ble_eq_true rfl⟩) (nv_pV hK7 hP7 (va_recv hT.1.1 hP7 (ci := 9) (q0 := 0) rfl rfl)) rfl rfl hl.1 rfl (lv_room (Nat.le_of_ble_eq_true rfl)) dL_law_1072 ⟨(show 175 + 3 * k + 1 + 0 ≤ 603072 by omega), (show 3554 + 18 * k + 6 + 0 ≤ 7219306 by omega)⟩) hS hA7 (fun H2 locs2 hP2 hK2 hS2 => ?_)
  have hP7 := hP2
  have hcW := cOn_W (l7 s AD o oD) _ _ (fun i _ hi h9 => h9.2.1 ⟨i, Nat.zero_le _, hi, rfl⟩) hK2 hcW
  have hO := hO.kept hK2 (fun h9 => h9.2.2.1 rfl)
  have hOB := hOB.kept hK2 (fun h9 => h9.2.2.2 rfl)
  have hS := hS2
  have hF9 := hF.next hk512
  refine lv_istore (lv' := [(7, .int (((if iR (xs (6 * k + 1)) (G 0) then nI (gCould G (tN (xs (6 * k + 1)))) else 0)))), (6, .int (nI ((if iR (xs (6 * k + 1)) (G 0) then 0 else 1)))), (0, .ref b9), (1, .ref (AD 0)), (2, .ref h), (3, .ref o), (4, .ref oD), (5, .int (nI (6 * k)))]) hx hb dL_law_1075 hl (by decide) rfl (fun ls hl => ?_)
  refine lv_aload_n hx hb dL_law_1077 rfl (lv_at hl 4 rfl) ?_
  refine nv_kS (va_runV (As := []) (rest := []) ⟨hx, hb, hml, hown, hts⟩ (c_X7_thrown l) (cwV 0 hts gL_law_X7_thrown rfl rfl rfl (by decide +kernel) ⟨Nat.le_of_ble_eq_true rfl, Nat.le_of_ble_eq_true rfl⟩) (nv_pV hK7 hP7 (va_recv hT.1.1 hP7 (ci := 9) (q0 := 0) rfl rfl)) rfl rfl hl.1 rfl (lv_room (Nat.le_of_ble_eq_true rfl)) dL_law_1078 ⟨(show 175 + 3 * k + 1 + 0 + 0 ≤ 603072 by omega), (show 3554 + 18 * k + 6 + 0 + 0 ≤ 7219306 by omega)⟩) ?_
  refine lv_iload hx hb dL_law_1081 (lv_at hl 1 rfl) ?_
  refine lv_icmp_eq (tgt := 1088) hx hb dL_law_1083 (by decide) (fun _ => ?_) (fun h9 => absurd rfl h9)
  refine lv_iload hx hb dL_law_1088 (lv_at hl 1 rfl) ?_
  refine lv_if_ne (tgt := 1105) hx hb dL_law_1090 (by decide) (fun _ => lv_goto (tgt := 2679) hx hb dL_law_1105 (by decide) (W.widen (k := 175 + 3 * (k + 1)) (n := 3554 + 18 * (k + 1)) (by omega) (by omega) (K _ _ _ ⟨_, _, _, _, _, _, _, _, _, _, _, _, _, _, _, _, _, _, hP7, hcW, hF9, hO.imp (fun _ _ => trivial), hOB.imp (fun _ _ => trivial)⟩ hS (lv_sub hl [2, 3, 4, 5, 6, 7] rfl)))) (fun h0 => ?_)
  have ht0 := nv_n0 (t := (if iR (xs (6 * k + 1)) (G 0) then 0 else 1)) (by (repeat' split) <;> decide) h0
  refine lv_aload_n hx hb dL_law_1093 rfl (lv_at hl 5 rfl) ?_
  refine lv_iconst (v := nI 0) hx hb dL_law_1094 (by decide) ?_
  refine nv_laldO hx hb hX.1 0 rfl (hO.imp (fun _ z => z ht0)) dL_law_1095 ?_
  refine lv_iload hx hb dL_law_1096 (lv_at hl 0 rfl) ?_
  refine lv_i2l hx hb dL_law_1098 rfl ?_
  refine W.lcmp hx hb dL_law_1099 ?_
  exact lv_if_eq (tgt := 1105) hx hb dL_law_1100 (by decide) (fun _ => lv_goto (tgt := 2679) hx hb dL_law_1105 (by decide) (W.widen (k := 175 + 3 * (k + 1)) (n := 3554 + 18 * (k + 1)) (by omega) (by omega) (K _ _ _ ⟨_, _, _, _, _, _, _, _, _, _, _, _, _, _, _, _, _, _, hP7, hcW, hF9, hO.imp (fun _ _ => trivial), hOB.imp (fun _ _ => trivial)⟩ hS (lv_sub hl [2, 3, 4, 5, 6, 7] rfl)))) (fun h9 => absurd (lg_same _) h9)

set_option maxHeartbeats 1000000 in
set_option maxRecDepth 100000 in
theorem lc_twins {p : Program} {l : Launch} {e : Env} {s : State} {m : MethodId} {args : Array Value} {below : List Frame} {meth : Method} {c : Code} {H : Heap} {locs : List Loc} {Q : State → Prop} {ls : Array Slot} {D : va_G} {cI cC cD cR cL cB : ClassId} {sa : sA} {AD : Nat → Nat} {h aG aB aH aS aI aL aT o oD b9 L : Nat} {xs : Nat → Int32} {k : Nat} (hC : lC p l s m args c D cI cC cD cR cL cB sa AD h aG aB aH aS aI aL aT o oD b9 L xs) (hk : 6 * k + 6 ≤ L) (hLI : lI D cI cC cD cR cL cB AD h aG aB aH aS aI aL aT o oD k H) (hS : va_S (lAN s) s.heap H locs) (hl : lv_has ls 9 [(0, .ref b9), (1, .ref (AD 0)), (2, .ref h), (3, .ref o), (4, .ref oD), (5, .int (nI (6 * k)))])
    (K : ∀ (H1 : Heap) (locs1 : List Loc) (ls1 : Array Slot), lI D cI cC cD cR cL cB AD h aG aB aH aS aI aL aT o oD (k + 1) H1 → va_S (lAN s) s.heap H1 locs1 → lv_has ls1 9 [(0, .ref b9), (1, .ref (AD 0)), (2, .ref h), (3, .ref o), (4, .ref oD), (5, .int (nI (6 * k)))] → W p l e room_1 s m args below meth c H1 locs1 (175 + 3 * (k + 1)) (3554 + 18 * (k + 1)) Q (F0 m 2679 ls1 [])) : W p l e room_1 s m args below meth c H locs (175 + 3 * k) (3554 + 18 * k) Q (F0 m 1108 ls []) := by
  obtain ⟨hx, hb, hml, hown, hts, hl9, hXs, hbl, hL, hT, hX, hI, hAD, ho9, hoD9, hne, hD7⟩ := hC
  obtain ⟨G, B, Hi, Sv, In, Le, To, ch, hs, ty, wy, ln, th, sp, iw, ea, ra, wd, hP7, hcW, hF, hO, hOB⟩ := hLI
  obtain ⟨b, hG, h25, hbt, -, hch, hHg, hhs, hSg, hty, hS7, hln, hLe, hwy⟩ := id hF
  have hk512 : k < 512 := by omega
  have hbb : b + 1 < 2 ^ 20 := by omega
  have hb32 : b + 32 < 2 ^ 20 := by omega
  have h13 : b < 8192 := by omega
  have hHw : ∀ j, j < ch → hAt Hi j 0 ≤ 8 ∧ hAt Hi j 1 ≤ 6 ∧ hAt Hi j 2 ≤ 5 := fun j hj => ⟨(hHg j hj).2.2.1, (hHg j hj).2.2.2.1, (hHg j hj).2.2.2.2.1⟩
  have hSw : hs = 1 → Sv 0 ≤ 8 ∧ Sv 1 ≤ 6 ∧ Sv 2 ≤ 5 := fun q => ⟨(hSg q).2.2.1, (hSg q).2.2.2.1, (hSg q).2.2.2.2.1⟩
  have ho := ho9.2
  have hoD := hoD9.2
  have hK7 : kS D [(cI, .int), (cC, .char)] [] s := ⟨hT.1.1.sub [0, 1] rfl, fun _ h9 => nomatch h9⟩
  have hA7 : ∀ q, l7 s AD o oD q → lAN s q := fun _ h9 => h9.1
  refine lv_aload_n hx hb dL_law_1108 rfl (lv_at hl 1 rfl) ?_
  refine lv_aload_n hx hb dL_law_1109 rfl (lv_at hl 0 rfl) ?_
  refine lv_iload hx hb dL_law_1110 (lv_at hl 5 rfl) ?_
  refine lv_iconst (v := nI 1) hx hb dL_law_1112 (by decide) ?_
  refine nv_iadd hx hb dL_law_1113 ?_
  refine nv_sld hx hb hXs hbl hS (by omega) hL dL_law_1114 ?_
  refine lv_aload_n hx hb dL_law_1115 rfl (lv_at hl 3 rfl) ?_
  refine nv_kN (vx_runSX (hh := [(0, 9, 12, 15)]) (As := [.ref (AD 0), .int (xs (6 * k + 1)), .ref o]) (rest := []) ⟨hx, hb, hml, hown, hts⟩ (c_L_twins l hl9 ho hG hI (xs (6 * k + 1))) (vx_cwSW 3 hts gL_law_L_twins rfl rfl rfl (by decide +kernel) ⟨Nat.le_of_ble_eq_true rfl, Nat.le_of_ble_eq_true rfl⟩) (nl_pS hT hX hS (fun q h9 => h9.elim (fun ⟨i, _, hi, e9⟩ => by rw [e9]; exact hAD i hi) (fun e9 => by rw [e9]; exact ho9.1)) ⟨hcW, hO⟩) rfl rfl hl.1 rfl (lv_room (Nat.le_of_ble_eq_true rfl)) dL_law_1116 ⟨(show 175 + 3 * k + 1 ≤ 603072 by omega), (show 3554 + 18 * k + 6 ≤ 7219306 by omega)⟩) hS (fun q h9 => h9.elim (fun ⟨i, _, hi, e9⟩ => by rw [e9]; exact hAD i hi) (fun e9 => by rw [e9]; exact ho9.1)) (fun H1 locs1 hP1 hK1 hS1 => ?_)
  obtain ⟨hcW, hO9⟩ := hP1
  have hP7 := nv_keep7 (hD7 G B Hi Sv In Le To _) hP7 hK1 (fun q h9 h8 => h8.elim h9.2.1 (fun e9 => h9.2.2.1 e9))
  have hOB := hOB.kept hK1 (fun h8 => h8.elim hoD (fun e9 => hne e9.symm))
  have hO := hO9
  have hS := hS1
  refine lv_istore (lv' := [(6, .int (nI ((if iR (xs (6 * k + 1)) (G 0) then 0 else 1)))), (0, .ref b9), (1, .ref (AD 0)), (2, .ref h), (3, .ref o), (4, .ref oD), (5, .int (nI (6 * k)))]) hx hb dL_law_1119 hl (by decide) rfl (fun ls hl => ?_)
  refine lv_aload_n hx hb dL_law_1121 rfl (lv_at hl 3 rfl) ?_
  refine lv_aload_n hx hb dL_law_1122 rfl (lv_at hl 1 rfl) ?_
  refine lv_iload hx hb dL_law_1123 (lv_at hl 6 rfl) ?_
  refine lv_iconst (v := nI 1) hx hb dL_law_1125 (by decide) ?_
  refine nv_iadd hx hb dL_law_1126 ?_
  refine nv_sld hx hb hXs hbl hS (by omega) hL dL_law_1127 ?_
  refine nv_kM2 (va_runV (As := [.int (xs (6 * k + 1))]) (rest := []) ⟨hx, hb, hml, hown, hts⟩ (c_X7_twins l hD7 hG (xs (6 * k + 1))) (cwV 1 hts gL_law_X7_twins rfl rfl rfl (by decide +kernel) ⟨Nat.le_of_ble_eq_true rfl, Nat.le_of_ble_eq_true rfl⟩) (nv_pV hK7 hP7 (va_recv hT.1.1 hP7 (ci := 9) (q0 := 0) rfl rfl)) rfl rfl hl.1 rfl (lv_room (Nat.le_of_ble_eq_true rfl)) dL_law_1128 ⟨(show 175 + 3 * k + 1 + 0 ≤ 603072 by omega), (show 3554 + 18 * k + 6 + 0 ≤ 7219306 by omega)⟩) hS hA7 (fun H2 locs2 hP2 hK2 hS2 => ?_)
  have hP7 := hP2
  have hcW := cOn_W (l7 s AD o oD) _ _ (fun i _ hi h9 => h9.2.1 ⟨i, Nat.zero_le _, hi, rfl⟩) hK2 hcW
  have hO := hO.kept hK2 (fun h9 => h9.2.2.1 rfl)
  have hOB := hOB.kept hK2 (fun h9 => h9.2.2.2 rfl)
  have hS := hS2
  have hF9 := hF.next hk512
  refine lv_istore (lv' := [(7, .int (((if iR (xs (6 * k + 1)) (G 0) then nI (gTwins G (tN (xs (6 * k + 1)))) else 0)))), (6, .int (nI ((if iR (xs (6 * k + 1)) (G 0) then 0 else 1)))), (0, .ref b9), (1, .ref (AD 0)), (2, .ref h), (3, .ref o), (4, .ref oD), (5, .int (nI (6 * k)))]) hx hb dL_law_1131 hl (by decide) rfl (fun ls hl => ?_)
  refine lv_aload_n hx hb dL_law_1133 rfl (lv_at hl 4 rfl) ?_
  refine nv_kS (va_runV (As := []) (rest := []) ⟨hx, hb, hml, hown, hts⟩ (c_X7_thrown l) (cwV 0 hts gL_law_X7_thrown rfl rfl rfl (by decide +kernel) ⟨Nat.le_of_ble_eq_true rfl, Nat.le_of_ble_eq_true rfl⟩) (nv_pV hK7 hP7 (va_recv hT.1.1 hP7 (ci := 9) (q0 := 0) rfl rfl)) rfl rfl hl.1 rfl (lv_room (Nat.le_of_ble_eq_true rfl)) dL_law_1134 ⟨(show 175 + 3 * k + 1 + 0 + 0 ≤ 603072 by omega), (show 3554 + 18 * k + 6 + 0 + 0 ≤ 7219306 by omega)⟩) ?_
  refine lv_iload hx hb dL_law_1137 (lv_at hl 1 rfl) ?_
  refine lv_icmp_eq (tgt := 1144) hx hb dL_law_1139 (by decide) (fun _ => ?_) (fun h9 => absurd rfl h9)
  refine lv_iload hx hb dL_law_1144 (lv_at hl 1 rfl) ?_
  refine lv_if_ne (tgt := 1161) hx hb dL_law_1146 (by decide) (fun _ => lv_goto (tgt := 2679) hx hb dL_law_1161 (by decide) (W.widen (k := 175 + 3 * (k + 1)) (n := 3554 + 18 * (k + 1)) (by omega) (by omega) (K _ _ _ ⟨_, _, _, _, _, _, _, _, _, _, _, _, _, _, _, _, _, _, hP7, hcW, hF9, hO.imp (fun _ _ => trivial), hOB.imp (fun _ _ => trivial)⟩ hS (lv_sub hl [2, 3, 4, 5, 6, 7] rfl)))) (fun h0 => ?_)
  have ht0 := nv_n0 (t := (if iR (xs (6 * k + 1)) (G 0) then 0 else 1)) (by (repeat' split) <;> decide) h0
  refine lv_aload_n hx hb dL_law_1149 rfl (lv_at hl 5 rfl) ?_
  refine lv_iconst (v := nI 0) hx hb dL_law_1150 (by decide) ?_
  refine nv_laldO hx hb hX.1 0 rfl (hO.imp (fun _ z => z ht0)) dL_law_1151 ?_
  refine lv_iload hx hb dL_law_1152 (lv_at hl 0 rfl) ?_
  refine lv_i2l hx hb dL_law_1154 rfl ?_
  refine W.lcmp hx hb dL_law_1155 ?_
  exact lv_if_eq (tgt := 1161) hx hb dL_law_1156 (by decide) (fun _ => lv_goto (tgt := 2679) hx hb dL_law_1161 (by decide) (W.widen (k := 175 + 3 * (k + 1)) (n := 3554 + 18 * (k + 1)) (by omega) (by omega) (K _ _ _ ⟨_, _, _, _, _, _, _, _, _, _, _, _, _, _, _, _, _, _, hP7, hcW, hF9, hO.imp (fun _ _ => trivial), hOB.imp (fun _ _ => trivial)⟩ hS (lv_sub hl [2, 3, 4, 5, 6, 7] rfl)))) (fun h9 => absurd (lg_same _) h9)

set_option maxHeartbeats 1000000 in
set_option maxRecDepth 100000 in
theorem lc_syncretic {p : Program} {l : Launch} {e : Env} {s : State} {m : MethodId} {args : Array Value} {below : List Frame} {meth : Method} {c : Code} {H : Heap} {locs : List Loc} {Q : State → Prop} {ls : Array Slot} {D : va_G} {cI cC cD cR cL cB : ClassId} {sa : sA} {AD : Nat → Nat} {h aG aB aH aS aI aL aT o oD b9 L : Nat} {xs : Nat → Int32} {k : Nat} (hC : lC p l s m args c D cI cC cD cR cL cB sa AD h aG aB aH aS aI aL aT o oD b9 L xs) (hk : 6 * k + 6 ≤ L) (hLI : lI D cI cC cD cR cL cB AD h aG aB aH aS aI aL aT o oD k H) (hS : va_S (lAN s) s.heap H locs) (hl : lv_has ls 9 [(0, .ref b9), (1, .ref (AD 0)), (2, .ref h), (3, .ref o), (4, .ref oD), (5, .int (nI (6 * k)))])
    (K : ∀ (H1 : Heap) (locs1 : List Loc) (ls1 : Array Slot), lI D cI cC cD cR cL cB AD h aG aB aH aS aI aL aT o oD (k + 1) H1 → va_S (lAN s) s.heap H1 locs1 → lv_has ls1 9 [(0, .ref b9), (1, .ref (AD 0)), (2, .ref h), (3, .ref o), (4, .ref oD), (5, .int (nI (6 * k)))] → W p l e room_1 s m args below meth c H1 locs1 (175 + 3 * (k + 1)) (3554 + 18 * (k + 1)) Q (F0 m 2679 ls1 [])) : W p l e room_1 s m args below meth c H locs (175 + 3 * k) (3554 + 18 * k) Q (F0 m 1164 ls []) := by
  obtain ⟨hx, hb, hml, hown, hts, hl9, hXs, hbl, hL, hT, hX, hI, hAD, ho9, hoD9, hne, hD7⟩ := hC
  obtain ⟨G, B, Hi, Sv, In, Le, To, ch, hs, ty, wy, ln, th, sp, iw, ea, ra, wd, hP7, hcW, hF, hO, hOB⟩ := hLI
  obtain ⟨b, hG, h25, hbt, -, hch, hHg, hhs, hSg, hty, hS7, hln, hLe, hwy⟩ := id hF
  have hk512 : k < 512 := by omega
  have hbb : b + 1 < 2 ^ 20 := by omega
  have hb32 : b + 32 < 2 ^ 20 := by omega
  have h13 : b < 8192 := by omega
  have hHw : ∀ j, j < ch → hAt Hi j 0 ≤ 8 ∧ hAt Hi j 1 ≤ 6 ∧ hAt Hi j 2 ≤ 5 := fun j hj => ⟨(hHg j hj).2.2.1, (hHg j hj).2.2.2.1, (hHg j hj).2.2.2.2.1⟩
  have hSw : hs = 1 → Sv 0 ≤ 8 ∧ Sv 1 ≤ 6 ∧ Sv 2 ≤ 5 := fun q => ⟨(hSg q).2.2.1, (hSg q).2.2.2.1, (hSg q).2.2.2.2.1⟩
  have ho := ho9.2
  have hoD := hoD9.2
  have hK7 : kS D [(cI, .int), (cC, .char)] [] s := ⟨hT.1.1.sub [0, 1] rfl, fun _ h9 => nomatch h9⟩
  have hA7 : ∀ q, l7 s AD o oD q → lAN s q := fun _ h9 => h9.1
  refine lv_aload_n hx hb dL_law_1164 rfl (lv_at hl 1 rfl) ?_
  refine lv_aload_n hx hb dL_law_1165 rfl (lv_at hl 0 rfl) ?_
  refine lv_iload hx hb dL_law_1166 (lv_at hl 5 rfl) ?_
  refine lv_iconst (v := nI 1) hx hb dL_law_1168 (by decide) ?_
  refine nv_iadd hx hb dL_law_1169 ?_
  refine nv_sld hx hb hXs hbl hS (by omega) hL dL_law_1170 ?_
  refine lv_aload_n hx hb dL_law_1171 rfl (lv_at hl 3 rfl) ?_
  refine nv_kN (vx_runSX (hh := [(0, 9, 12, 13)]) (As := [.ref (AD 0), .int (xs (6 * k + 1)), .ref o]) (rest := []) ⟨hx, hb, hml, hown, hts⟩ (c_L_syncretic l hl9 ho hG hI (xs (6 * k + 1))) (vx_cwSW 3 hts gL_law_L_syncretic rfl rfl rfl (by decide +kernel) ⟨Nat.le_of_ble_eq_true rfl, Nat.le_of_ble_eq_true rfl⟩) (nl_pS hT hX hS (fun q h9 => h9.elim (fun ⟨i, _, hi, e9⟩ => by rw [e9]; exact hAD i hi) (fun e9 => by rw [e9]; exact ho9.1)) ⟨hcW, hO⟩) rfl rfl hl.1 rfl (lv_room (Nat.le_of_ble_eq_true rfl)) dL_law_1172 ⟨(show 175 + 3 * k + 1 ≤ 603072 by omega), (show 3554 + 18 * k + 6 ≤ 7219306 by omega)⟩) hS (fun q h9 => h9.elim (fun ⟨i, _, hi, e9⟩ => by rw [e9]; exact hAD i hi) (fun e9 => by rw [e9]; exact ho9.1)) (fun H1 locs1 hP1 hK1 hS1 => ?_)
  obtain ⟨hcW, hO9⟩ := hP1
  have hP7 := nv_keep7 (hD7 G B Hi Sv In Le To _) hP7 hK1 (fun q h9 h8 => h8.elim h9.2.1 (fun e9 => h9.2.2.1 e9))
  have hOB := hOB.kept hK1 (fun h8 => h8.elim hoD (fun e9 => hne e9.symm))
  have hO := hO9
  have hS := hS1
  refine lv_istore (lv' := [(6, .int (nI ((if iR (xs (6 * k + 1)) 3 then 0 else 1)))), (0, .ref b9), (1, .ref (AD 0)), (2, .ref h), (3, .ref o), (4, .ref oD), (5, .int (nI (6 * k)))]) hx hb dL_law_1175 hl (by decide) rfl (fun ls hl => ?_)
  refine lv_aload_n hx hb dL_law_1177 rfl (lv_at hl 3 rfl) ?_
  refine lv_aload_n hx hb dL_law_1178 rfl (lv_at hl 1 rfl) ?_
  refine lv_iload hx hb dL_law_1179 (lv_at hl 6 rfl) ?_
  refine lv_iconst (v := nI 1) hx hb dL_law_1181 (by decide) ?_
  refine nv_iadd hx hb dL_law_1182 ?_
  refine nv_sld hx hb hXs hbl hS (by omega) hL dL_law_1183 ?_
  refine nv_kM2 (va_runV (As := [.int (xs (6 * k + 1))]) (rest := []) ⟨hx, hb, hml, hown, hts⟩ (c_X7_syncretic l hD7 hG (xs (6 * k + 1))) (cwV 1 hts gL_law_X7_syncretic rfl rfl rfl (by decide +kernel) ⟨Nat.le_of_ble_eq_true rfl, Nat.le_of_ble_eq_true rfl⟩) (nv_pV hK7 hP7 (va_recv hT.1.1 hP7 (ci := 9) (q0 := 0) rfl rfl)) rfl rfl hl.1 rfl (lv_room (Nat.le_of_ble_eq_true rfl)) dL_law_1184 ⟨(show 175 + 3 * k + 1 + 0 ≤ 603072 by omega), (show 3554 + 18 * k + 6 + 0 ≤ 7219306 by omega)⟩) hS hA7 (fun H2 locs2 hP2 hK2 hS2 => ?_)
  have hP7 := hP2
  have hcW := cOn_W (l7 s AD o oD) _ _ (fun i _ hi h9 => h9.2.1 ⟨i, Nat.zero_le _, hi, rfl⟩) hK2 hcW
  have hO := hO.kept hK2 (fun h9 => h9.2.2.1 rfl)
  have hOB := hOB.kept hK2 (fun h9 => h9.2.2.2 rfl)
  have hS := hS2
  have hF9 := hF.next hk512
  refine lv_istore (lv' := [(7, .int (((if iR (xs (6 * k + 1)) 3 then nI (gSyn G (tN (xs (6 * k + 1)))) else 0)))), (6, .int (nI ((if iR (xs (6 * k + 1)) 3 then 0 else 1)))), (0, .ref b9), (1, .ref (AD 0)), (2, .ref h), (3, .ref o), (4, .ref oD), (5, .int (nI (6 * k)))]) hx hb dL_law_1187 hl (by decide) rfl (fun ls hl => ?_)
  refine lv_aload_n hx hb dL_law_1189 rfl (lv_at hl 4 rfl) ?_
  refine nv_kS (va_runV (As := []) (rest := []) ⟨hx, hb, hml, hown, hts⟩ (c_X7_thrown l) (cwV 0 hts gL_law_X7_thrown rfl rfl rfl (by decide +kernel) ⟨Nat.le_of_ble_eq_true rfl, Nat.le_of_ble_eq_true rfl⟩) (nv_pV hK7 hP7 (va_recv hT.1.1 hP7 (ci := 9) (q0 := 0) rfl rfl)) rfl rfl hl.1 rfl (lv_room (Nat.le_of_ble_eq_true rfl)) dL_law_1190 ⟨(show 175 + 3 * k + 1 + 0 + 0 ≤ 603072 by omega), (show 3554 + 18 * k + 6 + 0 + 0 ≤ 7219306 by omega)⟩) ?_
  refine lv_iload hx hb dL_law_1193 (lv_at hl 1 rfl) ?_
  refine lv_icmp_eq (tgt := 1200) hx hb dL_law_1195 (by decide) (fun _ => ?_) (fun h9 => absurd rfl h9)
  refine lv_iload hx hb dL_law_1200 (lv_at hl 1 rfl) ?_
  refine lv_if_ne (tgt := 1217) hx hb dL_law_1202 (by decide) (fun _ => lv_goto (tgt := 2679) hx hb dL_law_1217 (by decide) (W.widen (k := 175 + 3 * (k + 1)) (n := 3554 + 18 * (k + 1)) (by omega) (by omega) (K _ _ _ ⟨_, _, _, _, _, _, _, _, _, _, _, _, _, _, _, _, _, _, hP7, hcW, hF9, hO.imp (fun _ _ => trivial), hOB.imp (fun _ _ => trivial)⟩ hS (lv_sub hl [2, 3, 4, 5, 6, 7] rfl)))) (fun h0 => ?_)
  have ht0 := nv_n0 (t := (if iR (xs (6 * k + 1)) 3 then 0 else 1)) (by (repeat' split) <;> decide) h0
  refine lv_aload_n hx hb dL_law_1205 rfl (lv_at hl 5 rfl) ?_
  refine lv_iconst (v := nI 0) hx hb dL_law_1206 (by decide) ?_
  refine nv_laldO hx hb hX.1 0 rfl (hO.imp (fun _ z => z ht0)) dL_law_1207 ?_
  refine lv_iload hx hb dL_law_1208 (lv_at hl 0 rfl) ?_
  refine lv_i2l hx hb dL_law_1210 rfl ?_
  refine W.lcmp hx hb dL_law_1211 ?_
  exact lv_if_eq (tgt := 1217) hx hb dL_law_1212 (by decide) (fun _ => lv_goto (tgt := 2679) hx hb dL_law_1217 (by decide) (W.widen (k := 175 + 3 * (k + 1)) (n := 3554 + 18 * (k + 1)) (by omega) (by omega) (K _ _ _ ⟨_, _, _, _, _, _, _, _, _, _, _, _, _, _, _, _, _, _, hP7, hcW, hF9, hO.imp (fun _ _ => trivial), hOB.imp (fun _ _ => trivial)⟩ hS (lv_sub hl [2, 3, 4, 5, 6, 7] rfl)))) (fun h9 => absurd (lg_same _) h9)

set_option maxHeartbeats 1000000 in
set_option maxRecDepth 100000 in
theorem lc_often {p : Program} {l : Launch} {e : Env} {s : State} {m : MethodId} {args : Array Value} {below : List Frame} {meth : Method} {c : Code} {H : Heap} {locs : List Loc} {Q : State → Prop} {ls : Array Slot} {D : va_G} {cI cC cD cR cL cB : ClassId} {sa : sA} {AD : Nat → Nat} {h aG aB aH aS aI aL aT o oD b9 L : Nat} {xs : Nat → Int32} {k : Nat} (hC : lC p l s m args c D cI cC cD cR cL cB sa AD h aG aB aH aS aI aL aT o oD b9 L xs) (hk : 6 * k + 6 ≤ L) (hLI : lI D cI cC cD cR cL cB AD h aG aB aH aS aI aL aT o oD k H) (hS : va_S (lAN s) s.heap H locs) (hl : lv_has ls 9 [(0, .ref b9), (1, .ref (AD 0)), (2, .ref h), (3, .ref o), (4, .ref oD), (5, .int (nI (6 * k)))])
    (K : ∀ (H1 : Heap) (locs1 : List Loc) (ls1 : Array Slot), lI D cI cC cD cR cL cB AD h aG aB aH aS aI aL aT o oD (k + 1) H1 → va_S (lAN s) s.heap H1 locs1 → lv_has ls1 9 [(0, .ref b9), (1, .ref (AD 0)), (2, .ref h), (3, .ref o), (4, .ref oD), (5, .int (nI (6 * k)))] → W p l e room_1 s m args below meth c H1 locs1 (175 + 3 * (k + 1)) (3554 + 18 * (k + 1)) Q (F0 m 2679 ls1 [])) : W p l e room_1 s m args below meth c H locs (175 + 3 * k) (3554 + 18 * k) Q (F0 m 1220 ls []) := by
  obtain ⟨hx, hb, hml, hown, hts, hl9, hXs, hbl, hL, hT, hX, hI, hAD, ho9, hoD9, hne, hD7⟩ := hC
  obtain ⟨G, B, Hi, Sv, In, Le, To, ch, hs, ty, wy, ln, th, sp, iw, ea, ra, wd, hP7, hcW, hF, hO, hOB⟩ := hLI
  obtain ⟨b, hG, h25, hbt, -, hch, hHg, hhs, hSg, hty, hS7, hln, hLe, hwy⟩ := id hF
  have hk512 : k < 512 := by omega
  have hbb : b + 1 < 2 ^ 20 := by omega
  have hb32 : b + 32 < 2 ^ 20 := by omega
  have h13 : b < 8192 := by omega
  have hHw : ∀ j, j < ch → hAt Hi j 0 ≤ 8 ∧ hAt Hi j 1 ≤ 6 ∧ hAt Hi j 2 ≤ 5 := fun j hj => ⟨(hHg j hj).2.2.1, (hHg j hj).2.2.2.1, (hHg j hj).2.2.2.2.1⟩
  have hSw : hs = 1 → Sv 0 ≤ 8 ∧ Sv 1 ≤ 6 ∧ Sv 2 ≤ 5 := fun q => ⟨(hSg q).2.2.1, (hSg q).2.2.2.1, (hSg q).2.2.2.2.1⟩
  have ho := ho9.2
  have hoD := hoD9.2
  have hK7 : kS D [(cI, .int), (cC, .char)] [] s := ⟨hT.1.1.sub [0, 1] rfl, fun _ h9 => nomatch h9⟩
  have hA7 : ∀ q, l7 s AD o oD q → lAN s q := fun _ h9 => h9.1
  refine lv_aload_n hx hb dL_law_1220 rfl (lv_at hl 1 rfl) ?_
  refine lv_aload_n hx hb dL_law_1221 rfl (lv_at hl 0 rfl) ?_
  refine lv_iload hx hb dL_law_1222 (lv_at hl 5 rfl) ?_
  refine lv_iconst (v := nI 1) hx hb dL_law_1224 (by decide) ?_
  refine nv_iadd hx hb dL_law_1225 ?_
  refine nv_sld hx hb hXs hbl hS (by omega) hL dL_law_1226 ?_
  refine lv_i2c hx hb dL_law_1227 rfl ?_
  refine lv_aload_n hx hb dL_law_1228 rfl (lv_at hl 3 rfl) ?_
  refine nv_kN (vx_runSX (hh := [(0, 9, 12, 13)]) (As := [.ref (AD 0), .int ((xs (6 * k + 1)).toUInt32 % 65536).toInt32, .ref o]) (rest := []) ⟨hx, hb, hml, hown, hts⟩ (c_L_often l hl9 ho hG hI (((xs (6 * k + 1)).toUInt32 % 65536).toInt32)) (vx_cwSW 3 hts gL_law_L_often rfl rfl rfl (by decide +kernel) ⟨Nat.le_of_ble_eq_true rfl, Nat.le_of_ble_eq_true rfl⟩) (nl_pS hT hX hS (fun q h9 => h9.elim (fun ⟨i, _, hi, e9⟩ => by rw [e9]; exact hAD i hi) (fun e9 => by rw [e9]; exact ho9.1)) ⟨hcW, hO⟩) rfl rfl hl.1 rfl (lv_room (Nat.le_of_ble_eq_true rfl)) dL_law_1229 ⟨(show 175 + 3 * k + 1 ≤ 603072 by omega), (show 3554 + 18 * k + 6 ≤ 7219306 by omega)⟩) hS (fun q h9 => h9.elim (fun ⟨i, _, hi, e9⟩ => by rw [e9]; exact hAD i hi) (fun e9 => by rw [e9]; exact ho9.1)) (fun H1 locs1 hP1 hK1 hS1 => ?_)
  obtain ⟨hcW, hO9⟩ := hP1
  have hP7 := nv_keep7 (hD7 G B Hi Sv In Le To _) hP7 hK1 (fun q h9 h8 => h8.elim h9.2.1 (fun e9 => h9.2.2.1 e9))
  have hOB := hOB.kept hK1 (fun h8 => h8.elim hoD (fun e9 => hne e9.symm))
  have hO := hO9
  have hS := hS1
  refine lv_istore (lv' := [(6, .int (nI ((if nI 97 ≤ (((xs (6 * k + 1)).toUInt32 % 65536).toInt32) ∧ (((xs (6 * k + 1)).toUInt32 % 65536).toInt32) ≤ nI 122 then 0 else 1)))), (0, .ref b9), (1, .ref (AD 0)), (2, .ref h), (3, .ref o), (4, .ref oD), (5, .int (nI (6 * k)))]) hx hb dL_law_1232 hl (by decide) rfl (fun ls hl => ?_)
  refine lv_aload_n hx hb dL_law_1234 rfl (lv_at hl 3 rfl) ?_
  refine lv_aload_n hx hb dL_law_1235 rfl (lv_at hl 1 rfl) ?_
  refine lv_iload hx hb dL_law_1236 (lv_at hl 6 rfl) ?_
  refine lv_iconst (v := nI 1) hx hb dL_law_1238 (by decide) ?_
  refine nv_iadd hx hb dL_law_1239 ?_
  refine nv_sld hx hb hXs hbl hS (by omega) hL dL_law_1240 ?_
  refine lv_i2c hx hb dL_law_1241 rfl ?_
  refine nv_kM2 (va_runV (As := [.int ((xs (6 * k + 1)).toUInt32 % 65536).toInt32]) (rest := []) ⟨hx, hb, hml, hown, hts⟩ (c_X7_often l hD7 (((xs (6 * k + 1)).toUInt32 % 65536).toInt32)) (cwV 1 hts gL_law_X7_often rfl rfl rfl (by decide +kernel) ⟨Nat.le_of_ble_eq_true rfl, Nat.le_of_ble_eq_true rfl⟩) (nv_pV hK7 hP7 (va_recv hT.1.1 hP7 (ci := 9) (q0 := 0) rfl rfl)) rfl rfl hl.1 rfl (lv_room (Nat.le_of_ble_eq_true rfl)) dL_law_1242 ⟨(show 175 + 3 * k + 1 + 0 ≤ 603072 by omega), (show 3554 + 18 * k + 6 + 0 ≤ 7219306 by omega)⟩) hS hA7 (fun H2 locs2 hP2 hK2 hS2 => ?_)
  have hP7 := hP2
  have hcW := cOn_W (l7 s AD o oD) _ _ (fun i _ hi h9 => h9.2.1 ⟨i, Nat.zero_le _, hi, rfl⟩) hK2 hcW
  have hO := hO.kept hK2 (fun h9 => h9.2.2.1 rfl)
  have hOB := hOB.kept hK2 (fun h9 => h9.2.2.2 rfl)
  have hS := hS2
  have hF9 := hF.next hk512
  refine lv_istore (lv' := [(7, .int (((if nI 97 ≤ (((xs (6 * k + 1)).toUInt32 % 65536).toInt32) ∧ (((xs (6 * k + 1)).toUInt32 % 65536).toInt32) ≤ nI 122 then nI (gOften G ((((xs (6 * k + 1)).toUInt32 % 65536).toInt32) - nI 97)) else 0)))), (6, .int (nI ((if nI 97 ≤ (((xs (6 * k + 1)).toUInt32 % 65536).toInt32) ∧ (((xs (6 * k + 1)).toUInt32 % 65536).toInt32) ≤ nI 122 then 0 else 1)))), (0, .ref b9), (1, .ref (AD 0)), (2, .ref h), (3, .ref o), (4, .ref oD), (5, .int (nI (6 * k)))]) hx hb dL_law_1245 hl (by decide) rfl (fun ls hl => ?_)
  refine lv_aload_n hx hb dL_law_1247 rfl (lv_at hl 4 rfl) ?_
  refine nv_kS (va_runV (As := []) (rest := []) ⟨hx, hb, hml, hown, hts⟩ (c_X7_thrown l) (cwV 0 hts gL_law_X7_thrown rfl rfl rfl (by decide +kernel) ⟨Nat.le_of_ble_eq_true rfl, Nat.le_of_ble_eq_true rfl⟩) (nv_pV hK7 hP7 (va_recv hT.1.1 hP7 (ci := 9) (q0 := 0) rfl rfl)) rfl rfl hl.1 rfl (lv_room (Nat.le_of_ble_eq_true rfl)) dL_law_1248 ⟨(show 175 + 3 * k + 1 + 0 + 0 ≤ 603072 by omega), (show 3554 + 18 * k + 6 + 0 + 0 ≤ 7219306 by omega)⟩) ?_
  refine lv_iload hx hb dL_law_1251 (lv_at hl 1 rfl) ?_
  refine lv_icmp_eq (tgt := 1258) hx hb dL_law_1253 (by decide) (fun _ => ?_) (fun h9 => absurd rfl h9)
  refine lv_iload hx hb dL_law_1258 (lv_at hl 1 rfl) ?_
  refine lv_if_ne (tgt := 1275) hx hb dL_law_1260 (by decide) (fun _ => lv_goto (tgt := 2679) hx hb dL_law_1275 (by decide) (W.widen (k := 175 + 3 * (k + 1)) (n := 3554 + 18 * (k + 1)) (by omega) (by omega) (K _ _ _ ⟨_, _, _, _, _, _, _, _, _, _, _, _, _, _, _, _, _, _, hP7, hcW, hF9, hO.imp (fun _ _ => trivial), hOB.imp (fun _ _ => trivial)⟩ hS (lv_sub hl [2, 3, 4, 5, 6, 7] rfl)))) (fun h0 => ?_)
  have ht0 := nv_n0 (t := (if nI 97 ≤ (((xs (6 * k + 1)).toUInt32 % 65536).toInt32) ∧ (((xs (6 * k + 1)).toUInt32 % 65536).toInt32) ≤ nI 122 then 0 else 1)) (by (repeat' split) <;> decide) h0
  refine lv_aload_n hx hb dL_law_1263 rfl (lv_at hl 5 rfl) ?_
  refine lv_iconst (v := nI 0) hx hb dL_law_1264 (by decide) ?_
  refine nv_laldO hx hb hX.1 0 rfl (hO.imp (fun _ z => z ht0)) dL_law_1265 ?_
  refine lv_iload hx hb dL_law_1266 (lv_at hl 0 rfl) ?_
  refine lv_i2l hx hb dL_law_1268 rfl ?_
  refine W.lcmp hx hb dL_law_1269 ?_
  exact lv_if_eq (tgt := 1275) hx hb dL_law_1270 (by decide) (fun _ => lv_goto (tgt := 2679) hx hb dL_law_1275 (by decide) (W.widen (k := 175 + 3 * (k + 1)) (n := 3554 + 18 * (k + 1)) (by omega) (by omega) (K _ _ _ ⟨_, _, _, _, _, _, _, _, _, _, _, _, _, _, _, _, _, _, hP7, hcW, hF9, hO.imp (fun _ _ => trivial), hOB.imp (fun _ _ => trivial)⟩ hS (lv_sub hl [2, 3, 4, 5, 6, 7] rfl)))) (fun h9 => absurd (lg_same _) h9)

set_option maxHeartbeats 1000000 in
set_option maxRecDepth 100000 in
theorem lc_knock {p : Program} {l : Launch} {e : Env} {s : State} {m : MethodId} {args : Array Value} {below : List Frame} {meth : Method} {c : Code} {H : Heap} {locs : List Loc} {Q : State → Prop} {ls : Array Slot} {D : va_G} {cI cC cD cR cL cB : ClassId} {sa : sA} {AD : Nat → Nat} {h aG aB aH aS aI aL aT o oD b9 L : Nat} {xs : Nat → Int32} {k : Nat} (hC : lC p l s m args c D cI cC cD cR cL cB sa AD h aG aB aH aS aI aL aT o oD b9 L xs) (hk : 6 * k + 6 ≤ L) (hLI : lI D cI cC cD cR cL cB AD h aG aB aH aS aI aL aT o oD k H) (hS : va_S (lAN s) s.heap H locs) (hl : lv_has ls 9 [(0, .ref b9), (1, .ref (AD 0)), (2, .ref h), (3, .ref o), (4, .ref oD), (5, .int (nI (6 * k)))])
    (K : ∀ (H1 : Heap) (locs1 : List Loc) (ls1 : Array Slot), lI D cI cC cD cR cL cB AD h aG aB aH aS aI aL aT o oD (k + 1) H1 → va_S (lAN s) s.heap H1 locs1 → lv_has ls1 9 [(0, .ref b9), (1, .ref (AD 0)), (2, .ref h), (3, .ref o), (4, .ref oD), (5, .int (nI (6 * k)))] → W p l e room_1 s m args below meth c H1 locs1 (175 + 3 * (k + 1)) (3554 + 18 * (k + 1)) Q (F0 m 2679 ls1 [])) : W p l e room_1 s m args below meth c H locs (175 + 3 * k) (3554 + 18 * k) Q (F0 m 1278 ls []) := by
  obtain ⟨hx, hb, hml, hown, hts, hl9, hXs, hbl, hL, hT, hX, hI, hAD, ho9, hoD9, hne, hD7⟩ := hC
  obtain ⟨G, B, Hi, Sv, In, Le, To, ch, hs, ty, wy, ln, th, sp, iw, ea, ra, wd, hP7, hcW, hF, hO, hOB⟩ := hLI
  obtain ⟨b, hG, h25, hbt, -, hch, hHg, hhs, hSg, hty, hS7, hln, hLe, hwy⟩ := id hF
  have hk512 : k < 512 := by omega
  have hbb : b + 1 < 2 ^ 20 := by omega
  have hb32 : b + 32 < 2 ^ 20 := by omega
  have h13 : b < 8192 := by omega
  have hHw : ∀ j, j < ch → hAt Hi j 0 ≤ 8 ∧ hAt Hi j 1 ≤ 6 ∧ hAt Hi j 2 ≤ 5 := fun j hj => ⟨(hHg j hj).2.2.1, (hHg j hj).2.2.2.1, (hHg j hj).2.2.2.2.1⟩
  have hSw : hs = 1 → Sv 0 ≤ 8 ∧ Sv 1 ≤ 6 ∧ Sv 2 ≤ 5 := fun q => ⟨(hSg q).2.2.1, (hSg q).2.2.2.1, (hSg q).2.2.2.2.1⟩
  have ho := ho9.2
  have hoD := hoD9.2
  have hK7 : kS D [(cI, .int), (cC, .char)] [] s := ⟨hT.1.1.sub [0, 1] rfl, fun _ h9 => nomatch h9⟩
  have hA7 : ∀ q, l7 s AD o oD q → lAN s q := fun _ h9 => h9.1
  refine lv_aload_n hx hb dL_law_1278 rfl (lv_at hl 1 rfl) ?_
  refine lv_aload_n hx hb dL_law_1279 rfl (lv_at hl 0 rfl) ?_
  refine lv_iload hx hb dL_law_1280 (lv_at hl 5 rfl) ?_
  refine lv_iconst (v := nI 1) hx hb dL_law_1282 (by decide) ?_
  refine nv_iadd hx hb dL_law_1283 ?_
  refine nv_sld hx hb hXs hbl hS (by omega) hL dL_law_1284 ?_
  refine lv_aload_n hx hb dL_law_1285 rfl (lv_at hl 0 rfl) ?_
  refine lv_iload hx hb dL_law_1286 (lv_at hl 5 rfl) ?_
  refine lv_iconst (v := nI 2) hx hb dL_law_1288 (by decide) ?_
  refine nv_iadd hx hb dL_law_1289 ?_
  refine nv_sld hx hb hXs hbl hS (by omega) hL dL_law_1290 ?_
  refine lv_aload_n hx hb dL_law_1291 rfl (lv_at hl 0 rfl) ?_
  refine lv_iload hx hb dL_law_1292 (lv_at hl 5 rfl) ?_
  refine lv_iconst (v := nI 3) hx hb dL_law_1294 (by decide) ?_
  refine nv_iadd hx hb dL_law_1295 ?_
  refine nv_sld hx hb hXs hbl hS (by omega) hL dL_law_1296 ?_
  refine nv_bool hx hb dL_law_1297 dL_law_1300 dL_law_1301 dL_law_1304 ?_
  refine lv_aload_n hx hb dL_law_1305 rfl (lv_at hl 0 rfl) ?_
  refine lv_iload hx hb dL_law_1306 (lv_at hl 5 rfl) ?_
  refine lv_iconst (v := nI 4) hx hb dL_law_1308 (by decide) ?_
  refine nv_iadd hx hb dL_law_1309 ?_
  refine nv_sld hx hb hXs hbl hS (by omega) hL dL_law_1310 ?_
  refine lv_aload_n hx hb dL_law_1311 rfl (lv_at hl 3 rfl) ?_
  refine nv_kN (vx_runSX (hh := [(0, 14, 17, 15), (0, 14, 21, 13), (0, 14, 25, 17)]) (As := [.ref (AD 0), .int (xs (6 * k + 1)), .int (xs (6 * k + 2)), .int (nI (if xs (6 * k + 3) = 0 then 0 else 1)), .int (xs (6 * k + 4)), .ref o]) (rest := []) ⟨hx, hb, hml, hown, hts⟩ (c_L_knock l hl9 ho hG hI hch hHw h25 hbb (xs (6 * k + 1)) (xs (6 * k + 2)) (if xs (6 * k + 3) = 0 then 0 else 1) (xs (6 * k + 4)) (nv_b01 _)) (vx_cwSW 6 hts gL_law_L_knock rfl rfl rfl (by decide +kernel) ⟨Nat.le_of_ble_eq_true rfl, Nat.le_of_ble_eq_true rfl⟩) (nl_pS hT hX hS (fun q h9 => h9.elim (fun ⟨i, _, hi, e9⟩ => by rw [e9]; exact hAD i hi) (fun e9 => by rw [e9]; exact ho9.1)) ⟨hcW, hO⟩) rfl rfl hl.1 rfl (lv_room (Nat.le_of_ble_eq_true rfl)) dL_law_1312 ⟨(show 175 + 3 * k + 1 ≤ 603072 by omega), (show 3554 + 18 * k + 6 ≤ 7219306 by omega)⟩) hS (fun q h9 => h9.elim (fun ⟨i, _, hi, e9⟩ => by rw [e9]; exact hAD i hi) (fun e9 => by rw [e9]; exact ho9.1)) (fun H1 locs1 hP1 hK1 hS1 => ?_)
  obtain ⟨hcW, hO9⟩ := hP1
  have hP7 := nv_keep7 (hD7 G B Hi Sv In Le To _) hP7 hK1 (fun q h9 h8 => h8.elim h9.2.1 (fun e9 => h9.2.2.1 e9))
  have hOB := hOB.kept hK1 (fun h8 => h8.elim hoD (fun e9 => hne e9.symm))
  have hO := hO9
  have hS := hS1
  refine lv_istore (lv' := [(6, .int (nI (((vKnock G (xs (6 * k + 1)) (xs (6 * k + 2)) (if xs (6 * k + 3) = 0 then 0 else 1) (xs (6 * k + 4))).1)))), (0, .ref b9), (1, .ref (AD 0)), (2, .ref h), (3, .ref o), (4, .ref oD), (5, .int (nI (6 * k)))]) hx hb dL_law_1315 hl (by decide) rfl (fun ls hl => ?_)
  refine lv_aload_n hx hb dL_law_1317 rfl (lv_at hl 3 rfl) ?_
  refine lv_aload_n hx hb dL_law_1318 rfl (lv_at hl 1 rfl) ?_
  refine lv_iload hx hb dL_law_1319 (lv_at hl 6 rfl) ?_
  refine lv_iconst (v := nI 1) hx hb dL_law_1321 (by decide) ?_
  refine nv_iadd hx hb dL_law_1322 ?_
  refine nv_sld hx hb hXs hbl hS (by omega) hL dL_law_1323 ?_
  refine lv_aload_n hx hb dL_law_1324 rfl (lv_at hl 1 rfl) ?_
  refine lv_iload hx hb dL_law_1325 (lv_at hl 6 rfl) ?_
  refine lv_iconst (v := nI 2) hx hb dL_law_1327 (by decide) ?_
  refine nv_iadd hx hb dL_law_1328 ?_
  refine nv_sld hx hb hXs hbl hS (by omega) hL dL_law_1329 ?_
  refine lv_aload_n hx hb dL_law_1330 rfl (lv_at hl 1 rfl) ?_
  refine lv_iload hx hb dL_law_1331 (lv_at hl 6 rfl) ?_
  refine lv_iconst (v := nI 3) hx hb dL_law_1333 (by decide) ?_
  refine nv_iadd hx hb dL_law_1334 ?_
  refine nv_sld hx hb hXs hbl hS (by omega) hL dL_law_1335 ?_
  refine nv_bool hx hb dL_law_1336 dL_law_1339 dL_law_1340 dL_law_1343 ?_
  refine lv_aload_n hx hb dL_law_1344 rfl (lv_at hl 1 rfl) ?_
  refine lv_iload hx hb dL_law_1345 (lv_at hl 6 rfl) ?_
  refine lv_iconst (v := nI 4) hx hb dL_law_1347 (by decide) ?_
  refine nv_iadd hx hb dL_law_1348 ?_
  refine nv_sld hx hb hXs hbl hS (by omega) hL dL_law_1349 ?_
  refine nv_kM2 (va_runV (As := [.int (xs (6 * k + 1)), .int (xs (6 * k + 2)), .int (nI (if xs (6 * k + 3) = 0 then 0 else 1)), .int (xs (6 * k + 4))]) (rest := []) ⟨hx, hb, hml, hown, hts⟩ (c_X7_knock l hD7 hG (xs (6 * k + 1)) (xs (6 * k + 2)) (if xs (6 * k + 3) = 0 then 0 else 1) (xs (6 * k + 4)) (nv_b01 _) hch) (cwV 4 hts gL_law_X7_knock rfl rfl rfl (by decide +kernel) ⟨Nat.le_of_ble_eq_true rfl, Nat.le_of_ble_eq_true rfl⟩) (nv_pV hK7 hP7 (va_recv hT.1.1 hP7 (ci := 9) (q0 := 0) rfl rfl)) rfl rfl hl.1 rfl (lv_room (Nat.le_of_ble_eq_true rfl)) dL_law_1350 ⟨(show 175 + 3 * k + 1 + 0 ≤ 603072 by omega), (show 3554 + 18 * k + 6 + 0 ≤ 7219306 by omega)⟩) hS hA7 (fun H2 locs2 hP2 hK2 hS2 => ?_)
  have hP7 := hP2
  have hcW := cOn_Wv (l7 s AD o oD) _ _ (fun i _ hi h9 => h9.2.1 ⟨i, Nat.zero_le _, hi, rfl⟩) hK2 hcW
  have hO := hO.kept hK2 (fun h9 => h9.2.2.1 rfl)
  have hOB := hOB.kept hK2 (fun h9 => h9.2.2.2 rfl)
  have hS := hS2
  have hF9 := hF.change hk512 (vKnock G (xs (6 * k + 1)) (xs (6 * k + 2)) (if xs (6 * k + 3) = 0 then 0 else 1) (xs (6 * k + 4))) (fun b9 h1 h2 h3 => vWf_vKnock h1 h2 h3) (vKnock_w _ _ _ _ _)
  refine lv_istore (lv' := [(7, .int (((vKnock G (xs (6 * k + 1)) (xs (6 * k + 2)) (if xs (6 * k + 3) = 0 then 0 else 1) (xs (6 * k + 4))).2.2.2.1))), (6, .int (nI (((vKnock G (xs (6 * k + 1)) (xs (6 * k + 2)) (if xs (6 * k + 3) = 0 then 0 else 1) (xs (6 * k + 4))).1)))), (0, .ref b9), (1, .ref (AD 0)), (2, .ref h), (3, .ref o), (4, .ref oD), (5, .int (nI (6 * k)))]) hx hb dL_law_1353 hl (by decide) rfl (fun ls hl => ?_)
  refine lv_aload_n hx hb dL_law_1355 rfl (lv_at hl 4 rfl) ?_
  refine nv_kS (va_runV (As := []) (rest := []) ⟨hx, hb, hml, hown, hts⟩ (c_X7_thrown l) (cwV 0 hts gL_law_X7_thrown rfl rfl rfl (by decide +kernel) ⟨Nat.le_of_ble_eq_true rfl, Nat.le_of_ble_eq_true rfl⟩) (nv_pV hK7 hP7 (va_recv hT.1.1 hP7 (ci := 9) (q0 := 0) rfl rfl)) rfl rfl hl.1 rfl (lv_room (Nat.le_of_ble_eq_true rfl)) dL_law_1356 ⟨(show 175 + 3 * k + 1 + 0 + 0 ≤ 603072 by omega), (show 3554 + 18 * k + 6 + 0 + 0 ≤ 7219306 by omega)⟩) ?_
  refine lv_iload hx hb dL_law_1359 (lv_at hl 1 rfl) ?_
  refine lv_icmp_eq (tgt := 1366) hx hb dL_law_1361 (by decide) (fun _ => ?_) (fun h9 => absurd rfl h9)
  refine lv_iload hx hb dL_law_1366 (lv_at hl 1 rfl) ?_
  refine lv_if_ne (tgt := 1383) hx hb dL_law_1368 (by decide) (fun _ => lv_goto (tgt := 2679) hx hb dL_law_1383 (by decide) (W.widen (k := 175 + 3 * (k + 1)) (n := 3554 + 18 * (k + 1)) (by omega) (by omega) (K _ _ _ ⟨_, _, _, _, _, _, _, _, _, _, _, _, _, _, _, _, _, _, hP7, hcW, hF9, hO.imp (fun _ _ => trivial), hOB.imp (fun _ _ => trivial)⟩ hS (lv_sub hl [2, 3, 4, 5, 6, 7] rfl)))) (fun h0 => ?_)
  have ht0 := nv_n0 (t := ((vKnock G (xs (6 * k + 1)) (xs (6 * k + 2)) (if xs (6 * k + 3) = 0 then 0 else 1) (xs (6 * k + 4))).1)) (vKnock_n _ _ _ _ _) h0
  refine lv_aload_n hx hb dL_law_1371 rfl (lv_at hl 5 rfl) ?_
  refine lv_iconst (v := nI 0) hx hb dL_law_1372 (by decide) ?_
  refine nv_laldO hx hb hX.1 0 rfl (hO.imp (fun _ z => z ht0)) dL_law_1373 ?_
  refine lv_iload hx hb dL_law_1374 (lv_at hl 0 rfl) ?_
  refine lv_i2l hx hb dL_law_1376 rfl ?_
  refine W.lcmp hx hb dL_law_1377 ?_
  exact lv_if_eq (tgt := 1383) hx hb dL_law_1378 (by decide) (fun _ => lv_goto (tgt := 2679) hx hb dL_law_1383 (by decide) (W.widen (k := 175 + 3 * (k + 1)) (n := 3554 + 18 * (k + 1)) (by omega) (by omega) (K _ _ _ ⟨_, _, _, _, _, _, _, _, _, _, _, _, _, _, _, _, _, _, hP7, hcW, hF9, hO.imp (fun _ _ => trivial), hOB.imp (fun _ _ => trivial)⟩ hS (lv_sub hl [2, 3, 4, 5, 6, 7] rfl)))) (fun h9 => absurd (lg_same _) h9)
