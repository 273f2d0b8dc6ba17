theorem lI_next {D : va_G} {cI cC cD cR cL cB : ClassId} {AD : Nat → Nat} {h aG aB aH aS aI aL aT o oD k : Nat} {H : Heap} (h9 : lI D cI cC cD cR cL cB AD h aG aB aH aS aI aL aT o oD k H) (hk : k < 512) : lI D cI cC cD cR cL cB AD h aG aB aH aS aI aL aT o oD (k + 1) H := by
  obtain ⟨G, B, Hi, Sv, In, Le, To, ch, hs, ty, wy, ln, th, sp, iw, ea, ra, wd, hP7, hcW, hF, hO, hOB⟩ := h9
  exact ⟨_, _, _, _, _, _, _, _, _, _, _, _, _, _, _, _, _, _, hP7, hcW, hF.next hk, hO, hOB⟩
set_option maxHeartbeats 1000000 in
/-- the switch: what each call does, and on -/
theorem law_step {p : Program} {l : Launch} {e : Env} {s : State} {m : MethodId} {below : List Frame} {meth : Method} {c : Code} {D : va_G} {cI cC cD cR cL cB : ClassId} {sa : sA} {AD : Nat → Nat} {h aG aB aH aS aI aL aT o oD b9 L : Nat} {xs : Nat → Int32} {H : Heap} {locs : List Loc} {ls : Array Slot} {Q : State → Prop} {args : Array Value} {k : Nat} (hC : lC p l s m args c D cI cC cD cR cL cB sa AD h aG aB aH aS aI aL aT o oD b9 L xs) (hk : 6 * k + 6 ≤ L) (hLI : lI D cI cC cD cR cL cB AD h aG aB aH aS aI aL aT o oD k H) (hS : va_S (lAN s) s.heap H locs) (hl : lv_has ls 9 [(0, .ref b9), (1, .ref (AD 0)), (2, .ref h), (3, .ref o), (4, .ref oD), (5, .int (nI (6 * k)))]) (j : Nat) (hj : j < 64)
    (K : ∀ (H1 : Heap) (locs1 : List Loc) (ls1 : Array Slot), lI D cI cC cD cR cL cB AD h aG aB aH aS aI aL aT o oD (k + 1) H1 → va_S (lAN s) s.heap H1 locs1 → lv_has ls1 9 [(0, .ref b9), (1, .ref (AD 0)), (2, .ref h), (3, .ref o), (4, .ref oD), (5, .int (nI (6 * k)))] → W p l e room_1 s m args below meth c H1 locs1 (175 + 3 * (k + 1)) (3554 + 18 * (k + 1)) Q (F0 m 2679 ls1 [])) : W p l e room_1 s m args below meth c H locs (175 + 3 * k) (3554 + 18 * k) Q (F0 m 45 ls [.int (nI j)]) := by
  have hx := hC.1
  have hb := hC.2.1
  have hL : L ≤ 3072 := hC.2.2.2.2.2.2.2.2.1
  rcases (show j = 0 ∨ j = 1 ∨ j = 2 ∨ j = 3 ∨ j = 4 ∨ j = 5 ∨ j = 6 ∨ j = 7 ∨ j = 8 ∨ j = 9 ∨ j = 10 ∨ j = 11 ∨ j = 12 ∨ j = 13 ∨ j = 14 ∨ j = 15 ∨ j = 16 ∨ j = 17 ∨ j = 18 ∨ j = 19 ∨ j = 20 ∨ j = 21 ∨ j = 22 ∨ j = 23 ∨ j = 24 ∨ j = 25 ∨ j = 26 ∨ j = 27 ∨ j = 28 ∨ j = 29 ∨ j = 30 ∨ j = 31 ∨ j = 32 ∨ j = 33 ∨ j = 34 ∨ j = 35 ∨ j = 36 ∨ j = 37 ∨ j = 38 ∨ 39 ≤ j by omega) with rfl | rfl | rfl | rfl | rfl | rfl | rfl | rfl | rfl | rfl | rfl | rfl | rfl | rfl | rfl | rfl | rfl | rfl | rfl | rfl | rfl | rfl | rfl | rfl | rfl | rfl | rfl | rfl | rfl | rfl | rfl | rfl | rfl | rfl | rfl | rfl | rfl | rfl | rfl | h9
  · exact lv_tableIn (off := 171) (tgt := 216) hx hb dL_law_45 (by decide) (by decide) (by decide +kernel) (by decide) (lc_clear hC hk hLI hS hl K)
  · exact lv_tableIn (off := 184) (tgt := 229) hx hb dL_law_45 (by decide) (by decide) (by decide +kernel) (by decide) (lc_door hC hk hLI hS hl K)
  · exact lv_tableIn (off := 304) (tgt := 349) hx hb dL_law_45 (by decide) (by decide) (by decide +kernel) (by decide) (lc_threshold hC hk hLI hS hl K)
  · exact lv_tableIn (off := 360) (tgt := 405) hx hb dL_law_45 (by decide) (by decide) (by decide +kernel) (by decide) (lc_govern hC hk hLI hS hl K)
  · exact lv_tableIn (off := 428) (tgt := 473) hx hb dL_law_45 (by decide) (by decide) (by decide +kernel) (by decide) (lc_set hC hk hLI hS hl K)
  · exact lv_tableIn (off := 496) (tgt := 541) hx hb dL_law_45 (by decide) (by decide) (by decide +kernel) (by decide) (lc_tellEnding hC hk hLI hS hl K)
  · exact lv_tableIn (off := 604) (tgt := 649) hx hb dL_law_45 (by decide) (by decide) (by decide +kernel) (by decide) (lc_key hC hk hLI hS hl K)
  · exact lv_tableIn (off := 672) (tgt := 717) hx hb dL_law_45 (by decide) (by decide) (by decide +kernel) (by decide) (lc_doorOf hC hk hLI hS hl K)
  · exact lv_tableIn (off := 740) (tgt := 785) hx hb dL_law_45 (by decide) (by decide) (by decide +kernel) (by decide) (lc_thresholdOf hC hk hLI hS hl K)
  · exact lv_tableIn (off := 808) (tgt := 853) hx hb dL_law_45 (by decide) (by decide) (by decide +kernel) (by decide) (lc_ending hC hk hLI hS hl K)
  · exact lv_tableIn (off := 904) (tgt := 949) hx hb dL_law_45 (by decide) (by decide) (by decide +kernel) (by decide) (lc_areAlike hC hk hLI hS hl K)
  · exact lv_tableIn (off := 1007) (tgt := 1052) hx hb dL_law_45 (by decide) (by decide) (by decide +kernel) (by decide) (lc_couldBe hC hk hLI hS hl K)
  · exact lv_tableIn (off := 1063) (tgt := 1108) hx hb dL_law_45 (by decide) (by decide) (by decide +kernel) (by decide) (lc_twins hC hk hLI hS hl K)
  · exact lv_tableIn (off := 1119) (tgt := 1164) hx hb dL_law_45 (by decide) (by decide) (by decide +kernel) (by decide) (lc_syncretic hC hk hLI hS hl K)
  · exact lv_tableIn (off := 1175) (tgt := 1220) hx hb dL_law_45 (by decide) (by decide) (by decide +kernel) (by decide) (lc_often hC hk hLI hS hl K)
  · exact lv_tableIn (off := 1233) (tgt := 1278) hx hb dL_law_45 (by decide) (by decide) (by decide +kernel) (by decide) (lc_knock hC hk hLI hS hl K)
  · exact lv_tableIn (off := 1341) (tgt := 1386) hx hb dL_law_45 (by decide) (by decide) (by decide +kernel) (by decide) (lc_shut hC hk hLI hS hl K)
  · exact lv_tableIn (off := 1397) (tgt := 1442) hx hb dL_law_45 (by decide) (by decide) (by decide +kernel) (by decide) (lc_free hC hk hLI hS hl K)
  · exact lv_tableIn (off := 1465) (tgt := 1510) hx hb dL_law_45 (by decide) (by decide) (by decide +kernel) (by decide) (lc_agrees hC hk hLI hS hl K)
  · exact lv_tableIn (off := 1573) (tgt := 1618) hx hb dL_law_45 (by decide) (by decide) (by decide +kernel) (by decide) (lc_keysFor hC hk hLI hS hl K)
  · exact lv_tableIn (off := 1629) (tgt := 1674) hx hb dL_law_45 (by decide) (by decide) (by decide +kernel) (by decide) (lc_way hC hk hLI hS hl K)
  · exact lv_tableIn (off := 1725) (tgt := 1770) hx hb dL_law_45 (by decide) (by decide) (by decide +kernel) (by decide) (lc_reached hC hk hLI hS hl K)
  · exact lv_tableIn (off := 1781) (tgt := 1826) hx hb dL_law_45 (by decide) (by decide) (by decide +kernel) (by decide) (lc_best hC hk hLI hS hl K)
  · exact lv_tableIn (off := 1837) (tgt := 1882) hx hb dL_law_45 (by decide) (by decide) (by decide +kernel) (by decide) (lc_ranked hC hk hLI hS hl K)
  · exact lv_tableIn (off := 1905) (tgt := 1950) hx hb dL_law_45 (by decide) (by decide) (by decide +kernel) (by decide) (lc_isRight hC hk hLI hS hl K)
  · exact lv_tableIn (off := 1918) (tgt := 1963) hx hb dL_law_45 (by decide) (by decide) (by decide +kernel) (by decide) (lc_line hC hk hLI hS hl K)
  · exact lv_tableIn (off := 1974) (tgt := 2019) hx hb dL_law_45 (by decide) (by decide) (by decide +kernel) (by decide) (lc_endings hC hk hLI hS hl K)
  · exact lv_tableIn (off := 2030) (tgt := 2075) hx hb dL_law_45 (by decide) (by decide) (by decide +kernel) (by decide) (lc_character hC hk hLI hS hl K)
  · exact lv_tableIn (off := 2086) (tgt := 2131) hx hb dL_law_45 (by decide) (by decide) (by decide +kernel) (by decide) (lc_refusal hC hk hLI hS hl K)
  · exact lv_tableIn (off := 2158) (tgt := 2203) hx hb dL_law_45 (by decide) (by decide) (by decide +kernel) (by decide) (lc_account hC hk hLI hS hl K)
  · exact lv_tableIn (off := 2214) (tgt := 2259) hx hb dL_law_45 (by decide) (by decide) (by decide +kernel) (by decide) (lc_meanKnocks hC hk hLI hS hl K)
  · exact lv_tableIn (off := 2279) (tgt := 2324) hx hb dL_law_45 (by decide) (by decide) (by decide +kernel) (by decide) (lc_agreedShare hC hk hLI hS hl K)
  · exact lv_tableIn (off := 2345) (tgt := 2390) hx hb dL_law_45 (by decide) (by decide) (by decide +kernel) (by decide) (lc_append hC hk hLI hS hl K)
  · exact lv_tableIn (off := 2401) (tgt := 2446) hx hb dL_law_45 (by decide) (by decide) (by decide +kernel) (by decide) (lc_read hC hk hLI hS hl K)
  · exact lv_tableIn (off := 2445) (tgt := 2490) hx hb dL_law_45 (by decide) (by decide) (by decide +kernel) (by decide) (lc_errorPosition hC hk hLI hS hl K)
  · exact lv_tableIn (off := 2489) (tgt := 2534) hx hb dL_law_45 (by decide) (by decide) (by decide +kernel) (by decide) (lc_refusedItem hC hk hLI hS hl K)
  · exact lv_tableIn (off := 2533) (tgt := 2578) hx hb dL_law_45 (by decide) (by decide) (by decide +kernel) (by decide) (lc_undo hC hk hLI hS hl K)
  · exact lv_tableIn (off := 2577) (tgt := 2622) hx hb dL_law_45 (by decide) (by decide) (by decide +kernel) (by decide) (lc_snapshot hC hk hLI hS hl K)
  · exact lv_tableIn (off := 2590) (tgt := 2635) hx hb dL_law_45 (by decide) (by decide) (by decide +kernel) (by decide) (lc_restore hC hk hLI hS hl K)
  · refine lv_tableOut (tgt := 2679) hx hb dL_law_45 (Or.inr ?_) (by decide) ?_
    · rw [nI_toInt (by omega)]; omega
    · exact W.widen (k := 175 + 3 * (k + 1)) (n := 3554 + 18 * (k + 1)) (by omega) (by omega) (K _ _ _ (lI_next hLI (by omega)) hS hl)
set_option maxHeartbeats 1000000 in
/-- the law's loop, from its head on -/
theorem law_loop {p : Program} {l : Launch} {e : Env} {s : State} {m : MethodId} {below : List Frame} {meth : Method} {c : Code} {D : va_G} {cI cC cD cR cL cB : ClassId} {sa : sA} {AD : Nat → Nat} {h aG aB aH aS aI aL aT o oD b9 L : Nat} {xs : Nat → Int32} (hC : lC p l s m #[Value.ref b9] c D cI cC cD cR cL cB sa AD h aG aB aH aS aI aL aT o oD b9 L xs) (hr : meth.sig.returnType = ret) (hlocks : meth.locks = false) :
    ∀ (n k : Nat), 6 * k ≤ L → 513 ≤ k + n → ∀ (H : Heap) (locs : List Loc) (ls : Array Slot), lI D cI cC cD cR cL cB AD h aG aB aH aS aI aL aT o oD k H → va_S (lAN s) s.heap H locs → lv_has ls 9 [(0, .ref b9), (1, .ref (AD 0)), (2, .ref h), (3, .ref o), (4, .ref oD), (5, .int (nI (6 * k)))] → W p l e room_1 s m #[Value.ref b9] below meth c H locs (175 + 3 * k) (3554 + 18 * k) (lw_Z below #[Value.ref b9] s) (F0 m 28 ls []) := by
  have hx := hC.1
  have hb := hC.2.1
  have hXs : va_X b9 L xs s s.heap := hC.2.2.2.2.2.2.1
  have hbl : b9 < s.heap.size := hC.2.2.2.2.2.2.2.1
  have hL : L ≤ 3072 := hC.2.2.2.2.2.2.2.2.1
  intro n
  induction n with
  | zero => intro k h1 h2; exact absurd h2 (by omega)
  | succ n ih =>
    intro k h1 h2 H locs ls hLI hS hl
    refine lv_iload hx hb dL_law_28 (lv_at hl 5 rfl) ?_
    refine lv_aload_n hx hb dL_law_30 rfl (lv_at hl 0 rfl) ?_
    refine va_slen hx hb hXs hbl (Nat.not_le.mpr hbl) hS dL_law_31 ?_
    refine lv_bipush (v := nI 6) hx hb dL_law_32 (by decide) ?_
    refine lv_isub hx hb dL_law_34 ?_
    have e1 : (Int32.ofNat L - nI 6).toInt = (L : Int) - 6 := pk_sub_toInt (a := L) (b := 6) (by omega) (by decide)
    have e2 : (nI (6 * k)).toInt = ((6 * k : Nat) : Int) := nI_toInt (by omega)
    refine lv_icmp_gt (tgt := 2685) hx hb dL_law_35 (by decide) (fun hgt => ?_) (fun hgt => ?_)
    · refine lv_iconst (v := 1) hx hb dL_law_2685 (by decide) ?_
      refine va_forget (fun q hq => hS.2.2 q hq) ?_
      refine W.widen (k := 603072) (n := 7219306) (by omega) (by omega) ?_
      refine W.base ?_
      exact lw_ret (Drawn.sameBut.refl s.drawn lw_cs) hx hb hr hlocks dL_law_2686
    · have hk : 6 * k + 6 ≤ L := by
        rw [Int32.lt_iff_toInt_lt, e1, e2] at hgt
        omega
      refine lv_aload_n hx hb dL_law_38 rfl (lv_at hl 0 rfl) ?_
      refine lv_iload hx hb dL_law_39 (lv_at hl 5 rfl) ?_
      refine nv_sld hx hb hXs hbl hS (by omega) hL dL_law_41 ?_
      refine lv_bipush (v := nI 63) hx hb dL_law_42 (by decide) ?_
      refine lv_iand hx hb dL_law_44 ?_
      have e3 : xs (6 * k) &&& nI 63 = nI ((xs (6 * k)).toBitVec.toNat % 2 ^ 6) := pk_and _ 6 (by decide)
      refine nv_to ((xs (6 * k)).toBitVec.toNat % 2 ^ 6) e3 ?_
      refine law_step hC hk hLI hS hl _ (Nat.mod_lt _ (by decide)) (fun H1 locs1 ls1 hLI1 hS1 hl1 => ?_)
      refine lv_iinc (v := nI (6 * (k + 1))) (lv' := [(5, .int (nI (6 * (k + 1)))), (0, .ref b9), (1, .ref (AD 0)), (2, .ref h), (3, .ref o), (4, .ref oD)]) hx hb dL_law_2679 hl1 (k := 5) rfl (nv_iaddl (a := 6 * k) (n := 6)) (by decide) rfl (fun ls2 hl2 => ?_)
      refine lv_goto (tgt := 28) hx hb dL_law_2682 (by decide) ?_
      exact ih (k + 1) (by omega) (by omega) H1 locs1 ls2 hLI1 hS1 (lv_sub hl2 [1, 2, 3, 4, 5, 0] rfl)
