theorem kv_v {n : Nat} {r : Int32} (h : ¬ n = 0 → r = 0) : (if n = 0 then r else 0) = r := by
  by_cases q : n = 0
  · rw [if_pos q]
  · rw [if_neg q, h q]
theorem kv_G {n : Nat} {G1 G : Nat → Nat} (h : ¬ n = 0 → G1 = G) : (if n = 0 then G1 else G) = G1 := by
  by_cases q : n = 0
  · rw [if_pos q]
  · rw [if_neg q, h q]
theorem vDoor_G {G : Nat → Nat} {a g : Int32} {z : Nat} {x y : Int32} (h : ¬ (vDoor G a g z x y).1 = 0) : (vDoor G a g z x y).2.2.2.2 = G ∧ (vDoor G a g z x y).2.2.2.1 = 0 := by
  revert h; unfold vDoor; split
  · exact fun _ => ⟨rfl, rfl⟩
  · split
    · exact fun _ => ⟨rfl, rfl⟩
    · split
      · exact fun _ => ⟨rfl, rfl⟩
      · exact fun h => absurd rfl h
theorem vSill_G {G : Nat → Nat} {c : Int32} (h : ¬ (vSill G c).1 = 0) : (vSill G c).2.2.2.2 = G ∧ (vSill G c).2.2.2.1 = 0 := by
  revert h; unfold vSill; split
  · exact fun _ => ⟨rfl, rfl⟩
  · split
    · exact fun _ => ⟨rfl, rfl⟩
    · exact fun h => absurd rfl h
theorem vGovern_G {G : Nat → Nat} {t c : Int32} (h : ¬ (vGovern G t c).1 = 0) : (vGovern G t c).2.2.2.2 = G ∧ (vGovern G t c).2.2.2.1 = 0 := by
  revert h; unfold vGovern; split
  · exact fun _ => ⟨rfl, rfl⟩
  · split
    · exact fun _ => ⟨rfl, rfl⟩
    · split
      · exact fun _ => ⟨rfl, rfl⟩
      · exact fun h => absurd rfl h
theorem vSet_G {G : Nat → Nat} {d t : Int32} (h : ¬ (vSet G d t).1 = 0) : (vSet G d t).2.2.2.2 = G ∧ (vSet G d t).2.2.2.1 = 0 := by
  revert h; unfold vSet; split
  · exact fun _ => ⟨rfl, rfl⟩
  · split
    · exact fun _ => ⟨rfl, rfl⟩
    · exact fun h => absurd rfl h
theorem vTell_G {G : Nat → Nat} {a c : Int32} {z : Nat} {x : Int32} (h : ¬ (vTell G a c z x).1 = 0) : (vTell G a c z x).2.2.2.2 = G ∧ (vTell G a c z x).2.2.2.1 = 0 := by
  revert h; unfold vTell; split
  · exact fun _ => ⟨rfl, rfl⟩
  · split
    · exact fun _ => ⟨rfl, rfl⟩
    · exact fun h => absurd rfl h
theorem vKey_G {G : Nat → Nat} {a g : Int32} (h : ¬ (vKey G a g).1 = 0) : (vKey G a g).2.2.2.2 = G ∧ (vKey G a g).2.2.2.1 = 0 := by
  revert h; unfold vKey; split
  · exact fun _ => ⟨rfl, rfl⟩
  · split
    · exact fun _ => ⟨rfl, rfl⟩
    · split
      · exact fun _ => ⟨rfl, rfl⟩
      · exact fun h => absurd rfl h
theorem vKnock_G {G : Nat → Nat} {d g : Int32} {z : Nat} {c : Int32} (h : ¬ (vKnock G d g z c).1 = 0) : (vKnock G d g z c).2.2.2.2 = G ∧ (vKnock G d g z c).2.2.2.1 = 0 := by
  revert h; unfold vKnock; split
  · exact fun _ => ⟨rfl, rfl⟩
  · split
    · exact fun _ => ⟨rfl, rfl⟩
    · split
      · exact fun _ => ⟨rfl, rfl⟩
      · split
        · exact fun _ => ⟨rfl, rfl⟩
        · exact fun h => absurd rfl h
theorem vShut_G {G : Nat → Nat} {d : Int32} (h : ¬ (vShut G d).1 = 0) : (vShut G d).2.2.2.2 = G ∧ (vShut G d).2.2.2.1 = 0 := by
  revert h; unfold vShut; split
  · exact fun _ => ⟨rfl, rfl⟩
  · split
    · exact fun _ => ⟨rfl, rfl⟩
    · exact fun h => absurd rfl h
theorem vFree_G {G : Nat → Nat} {k d : Int32} (h : ¬ (vFree G k d).1 = 0) : (vFree G k d).2.2.2.2 = G ∧ (vFree G k d).2.2.2.1 = 0 := by
  revert h; unfold vFree; split
  · exact fun _ => ⟨rfl, rfl⟩
  · split
    · exact fun _ => ⟨rfl, rfl⟩
    · split
      · exact fun _ => ⟨rfl, rfl⟩
      · exact fun h => absurd rfl h
theorem vDoor_n (G : Nat → Nat) (a g : Int32) (z : Nat) (x y : Int32) : (vDoor G a g z x y).1 ≤ 3 := by
  unfold vDoor; repeat' split
  all_goals simp [vErr, vRef, vOk]
theorem vSill_n (G : Nat → Nat) (c : Int32) : (vSill G c).1 ≤ 3 := by
  unfold vSill; repeat' split
  all_goals simp [vErr, vRef, vOk]
theorem vGovern_n (G : Nat → Nat) (t c : Int32) : (vGovern G t c).1 ≤ 3 := by
  unfold vGovern; repeat' split
  all_goals simp [vErr, vRef, vOk]
theorem vSet_n (G : Nat → Nat) (d t : Int32) : (vSet G d t).1 ≤ 3 := by
  unfold vSet; repeat' split
  all_goals simp [vErr, vRef, vOk]
theorem vTell_n (G : Nat → Nat) (a c : Int32) (z : Nat) (x : Int32) : (vTell G a c z x).1 ≤ 3 := by
  unfold vTell; repeat' split
  all_goals simp [vErr, vRef, vOk]
theorem vKey_n (G : Nat → Nat) (a g : Int32) : (vKey G a g).1 ≤ 3 := by
  unfold vKey; repeat' split
  all_goals simp [vErr, vRef, vOk]
theorem vKnock_n (G : Nat → Nat) (d g : Int32) (z : Nat) (c : Int32) : (vKnock G d g z c).1 ≤ 3 := by
  unfold vKnock; repeat' split
  all_goals simp [vErr, vRef, vOk]
theorem vShut_n (G : Nat → Nat) (d : Int32) : (vShut G d).1 ≤ 3 := by
  unfold vShut; repeat' split
  all_goals simp [vErr, vRef, vOk]
theorem vFree_n (G : Nat → Nat) (k d : Int32) : (vFree G k d).1 ≤ 3 := by
  unfold vFree; repeat' split
  all_goals simp [vErr, vRef, vOk]

set_option maxHeartbeats 1000000 in
set_option maxRecDepth 100000 in
theorem c_X7_door (l : Launch) {D : va_G} {cI cC : ClassId} {h aG aB aH aS aI aL aT : Nat} {G B Hi Sv In Le : Nat → Nat} {To : Nat → Int32} {ch hs ty wy ln th sp iw : Nat} {ea ra wd : Int32} {A : Nat → Prop} (hD : ∀ (G B Hi Sv In Le : Nat → Nat) (To : Nat → Int32) (fs : List Value), va_D A [(h, .inr (9, fs)), (aG, .inl (cI, 128, .inl (gN G))), (aB, .inl (cI, 128, .inl (gN B))), (aH, .inl (cI, 1024, .inl (gN Hi))), (aS, .inl (cI, 128, .inl (gN Sv))), (aI, .inl (cI, 60, .inl (gN In))), (aL, .inl (cC, 40, .inl (gN Le))), (aT, .inl (cI, 360, .inl To))]) {b : Nat} (hG : gWf b G) (a g : Int32) (z : Nat) (x y : Int32) (hz : z ≤ 1) (hch : ch ≤ 8) : Met l yX7_door wsX7_door ({ frames := 3, cells := 0, slots := 0, locals := 70 }) (va_Pc [.ref h, .int a, .int g, .int (nI z), .int x, .int y] (sPre D [(cI, .int), (cC, .char)] [] (fun H => va_P D vwCl [(h, .inr (9, [.ref aG, .ref aB, .ref aH, .int (nI ch), .ref aS, .int (nI hs), .ref aI, .int (nI ty), .int ea, .int ra, .int (nI wy), .int wd, .ref aL, .int (nI ln), .int (nI th), .int (nI sp), .int (nI iw), .ref aT])), (aG, .inl (cI, 128, .inl (gN G))), (aB, .inl (cI, 128, .inl (gN B))), (aH, .inl (cI, 1024, .inl (gN Hi))), (aS, .inl (cI, 128, .inl (gN Sv))), (aI, .inl (cI, 60, .inl (gN In))), (aL, .inl (cC, 40, .inl (gN Le))), (aT, .inl (cI, 360, .inl To))] H))) (mQ D ((vDoor G a g z x y).2.2.2.1) [(h, .inr (9, [.ref aG, .ref aB, .ref aH, .int (nI ((if (vDoor G a g z x y).1 = 0 then (if ch = 8 then 8 else ch + 1) else ch))), .ref aS, .int (nI hs), .ref aI, .int (nI ty), .int ea, .int ra, .int (nI (vWy (vDoor G a g z x y) wy)), .int (vWd (vDoor G a g z x y) wd), .ref aL, .int (nI ln), .int (nI ((vDoor G a g z x y).1)), .int (nI sp), .int (nI iw), .ref aT])), (aG, .inl (cI, 128, .inl (gN ((vDoor G a g z x y).2.2.2.2)))), (aB, .inl (cI, 128, .inl (gN G))), (aH, .inl (cI, 1024, .inl (gN ((if (vDoor G a g z x y).1 = 0 then hPush Hi G ch else Hi))))), (aS, .inl (cI, 128, .inl (gN Sv))), (aI, .inl (cI, 60, .inl (gN In))), (aL, .inl (cC, 40, .inl (gN Le))), (aT, .inl (cI, 360, .inl To))] A) 0 0 A := by
  refine nv_met (cc := cX7_door) (maxL := 6) (ret := (some .int)) (by decide) rfl (Nat.le_of_ble_eq_true rfl) ?_
  intro p0 e0 s m0 args below meth c0 Q hq hargs hnA hpre ls hl
  obtain ⟨hx, hb, hr, hts, hown, hlocks, hml⟩ := hnA
  obtain ⟨hP, hK⟩ := hpre
  have hown : s.vm.findClass RX7 = some m0.cls := hown
  have hP : va_P D vwCl [(h, .inr (9, [.ref aG, .ref aB, .ref aH, .int (nI ch), .ref aS, .int (nI hs), .ref aI, .int (nI ty), .int ea, .int ra, .int (nI wy), .int wd, .ref aL, .int (nI ln), .int (nI th), .int (nI sp), .int (nI iw), .ref aT])), (aG, .inl (cI, 128, .inl (gN G))), (aB, .inl (cI, 128, .inl (gN B))), (aH, .inl (cI, 1024, .inl (gN Hi))), (aS, .inl (cI, 128, .inl (gN Sv))), (aI, .inl (cI, 60, .inl (gN In))), (aL, .inl (cC, 40, .inl (gN Le))), (aT, .inl (cI, 360, .inl To))] s.heap := hP
  have hl : lv_has ls 6 [(0, .ref h), (1, .int a), (2, .int g), (3, .int (nI z)), (4, .int x), (5, .int y)] := hl
  have hS : va_S A s.heap s.heap [] := va_S.rf
  obtain ⟨g_b, g_k, g_0, g_1, g_2, g_e, g_d, g_t, g_y, g_s, g_h⟩ := id hG
  refine lv_aload_n hx hb dX7_door_0 rfl (lv_at hl 0 rfl) ?_
  refine nv_kMv (va_runV (As := []) (rest := []) ⟨hx, hb, hml, hown, hts⟩ (c_X7_looksBack l hD) (cwV 0 hts gX7_door_X7_looksBack rfl rfl rfl (by decide +kernel) ⟨Nat.le_of_ble_eq_true rfl, Nat.le_of_ble_eq_true rfl⟩) (nv_pV hK hP (va_recv hK.1 hP (ci := 9) (q0 := 0) rfl rfl)) rfl rfl hl.1 rfl (lv_room (Nat.le_of_ble_eq_true rfl)) dX7_door_1 ⟨Nat.zero_le _, Nat.zero_le _⟩) hS (fun H locs hP hS => ?_)
  have hP : va_P D vwCl [(h, .inr (9, [.ref aG, .ref aB, .ref aH, .int (nI ch), .ref aS, .int (nI hs), .ref aI, .int (nI ty), .int ea, .int ra, .int (nI wy), .int wd, .ref aL, .int (nI ln), .int (nI th), .int (nI sp), .int (nI iw), .ref aT])), (aG, .inl (cI, 128, .inl (gN G))), (aB, .inl (cI, 128, .inl (gN G))), (aH, .inl (cI, 1024, .inl (gN Hi))), (aS, .inl (cI, 128, .inl (gN Sv))), (aI, .inl (cI, 60, .inl (gN In))), (aL, .inl (cC, 40, .inl (gN Le))), (aT, .inl (cI, 360, .inl To))] H := hP
  refine lv_aload_n hx hb dX7_door_4 rfl (lv_at hl 0 rfl) ?_
  refine lv_aload_n hx hb dX7_door_5 rfl (lv_at hl 0 rfl) ?_
  refine lv_iload_n hx hb dX7_door_6 rfl (lv_at hl 1 rfl) ?_
  refine lv_iload_n hx hb dX7_door_7 rfl (lv_at hl 2 rfl) ?_
  refine lv_iload_n hx hb dX7_door_8 rfl (lv_at hl 3 rfl) ?_
  refine nv_jn (α := Nat) (fun r => W p0 l e0 ({ frames := 3, cells := 0, slots := 0, locals := 70 }) s m0 args below meth c0 H locs 0 0 Q (F0 m0 17 ls (.int (nI r) :: [.int g, .int a, .ref h, .ref h]))) ((if z = 0 then 0 else 1)) (fun r er => ?_) (fun hJ => ?_)
  · subst er
    refine nv_to z (nv_z01 hz) ?_
    refine lv_iload hx hb dX7_door_17 (lv_at hl 4 rfl) ?_
    refine lv_iload hx hb dX7_door_19 (lv_at hl 5 rfl) ?_
    refine nv_kM (va_runV (As := [.int a, .int g, .int (nI z), .int x, .int y]) (rest := [.ref h]) ⟨hx, hb, hml, hown, hts⟩ (c_X7_doorComes l hD hG (a) (g) z (x) (y)) (cwV 5 hts gX7_door_X7_doorComes rfl rfl rfl (by decide +kernel) ⟨Nat.le_of_ble_eq_true rfl, Nat.le_of_ble_eq_true rfl⟩) (nv_pV hK hP (va_recv hK.1 hP (ci := 9) (q0 := 0) rfl rfl)) rfl rfl hl.1 rfl (lv_room (Nat.le_of_ble_eq_true rfl)) dX7_door_21 ⟨Nat.zero_le _, Nat.zero_le _⟩) hS (fun H locs hP hS => ?_)
    have hP : va_P D vwCl [(h, .inr (9, [.ref aG, .ref aB, .ref aH, .int (nI ch), .ref aS, .int (nI hs), .ref aI, .int (nI ty), .int ea, .int ra, .int (nI (vWy (vDoor G (a) (g) z (x) (y)) wy)), .int (vWd (vDoor G (a) (g) z (x) (y)) wd), .ref aL, .int (nI ln), .int (nI ((vDoor G (a) (g) z (x) (y)).1)), .int (nI sp), .int (nI iw), .ref aT])), (aG, .inl (cI, 128, .inl (gN ((vDoor G (a) (g) z (x) (y)).2.2.2.2)))), (aB, .inl (cI, 128, .inl (gN G))), (aH, .inl (cI, 1024, .inl (gN Hi))), (aS, .inl (cI, 128, .inl (gN Sv))), (aI, .inl (cI, 60, .inl (gN In))), (aL, .inl (cC, 40, .inl (gN Le))), (aT, .inl (cI, 360, .inl To))] H := hP
    refine nv_kM (va_runV (As := [.int ((vDoor G (a) (g) z (x) (y)).2.2.2.1)]) (rest := []) ⟨hx, hb, hml, hown, hts⟩ (c_X7_kept l hD ((vDoor G (a) (g) z (x) (y)).2.2.2.1) (by omega) (Nat.lt_of_le_of_lt (vDoor_n _ _ _ _ _ _) (by decide))) (cwV 1 hts gX7_door_X7_kept rfl rfl rfl (by decide +kernel) ⟨Nat.le_of_ble_eq_true rfl, Nat.le_of_ble_eq_true rfl⟩) (nv_pV hK hP (va_recv hK.1 hP (ci := 9) (q0 := 0) rfl rfl)) rfl rfl hl.1 rfl (lv_room (Nat.le_of_ble_eq_true rfl)) dX7_door_24 ⟨Nat.zero_le _, Nat.zero_le _⟩) hS (fun H locs hP hS => ?_)
    have hP : va_P D vwCl [(h, .inr (9, [.ref aG, .ref aB, .ref aH, .int (nI ((if (vDoor G (a) (g) z (x) (y)).1 = 0 then (if ch = 8 then 8 else ch + 1) else ch))), .ref aS, .int (nI hs), .ref aI, .int (nI ty), .int ea, .int ra, .int (nI (vWy (vDoor G (a) (g) z (x) (y)) wy)), .int (vWd (vDoor G (a) (g) z (x) (y)) wd), .ref aL, .int (nI ln), .int (nI ((vDoor G (a) (g) z (x) (y)).1)), .int (nI sp), .int (nI iw), .ref aT])), (aG, .inl (cI, 128, .inl (gN ((if (vDoor G (a) (g) z (x) (y)).1 = 0 then (vDoor G (a) (g) z (x) (y)).2.2.2.2 else G))))), (aB, .inl (cI, 128, .inl (gN G))), (aH, .inl (cI, 1024, .inl (gN ((if (vDoor G (a) (g) z (x) (y)).1 = 0 then hPush Hi G ch else Hi))))), (aS, .inl (cI, 128, .inl (gN Sv))), (aI, .inl (cI, 60, .inl (gN In))), (aL, .inl (cC, 40, .inl (gN Le))), (aT, .inl (cI, 360, .inl To))] H := hP
    exact nv_retM hq hx hb hr hlocks (nar_i _) (kv_v (fun q => (vDoor_G q).2)) hS hP (by rw [kv_G (fun q => (vDoor_G q).1)]) dX7_door_27
  · refine nv_if_eq (tgt := 16) hx hb dX7_door_9 (by decide) (by omega) (fun c1 => ?_) (fun c1 => ?_)
    · refine lv_iconst (v := nI 0) hx hb dX7_door_16 (by decide) ?_
      exact hJ _ (if_pos c1).symm
    · refine lv_iconst (v := nI 1) hx hb dX7_door_12 (by decide) ?_
      refine lv_goto (tgt := 17) hx hb dX7_door_13 (by decide) ?_
      exact hJ _ (if_neg c1).symm

set_option maxHeartbeats 1000000 in
set_option maxRecDepth 100000 in
theorem c_X7_threshold (l : Launch) {D : va_G} {cI cC : ClassId} {h aG aB aH aS aI aL aT : Nat} {G B Hi Sv In Le : Nat → Nat} {To : Nat → Int32} {ch hs ty wy ln th sp iw : Nat} {ea ra wd : Int32} {A : Nat → Prop} (hD : ∀ (G B Hi Sv In Le : Nat → Nat) (To : Nat → Int32) (fs : List Value), va_D A [(h, .inr (9, fs)), (aG, .inl (cI, 128, .inl (gN G))), (aB, .inl (cI, 128, .inl (gN B))), (aH, .inl (cI, 1024, .inl (gN Hi))), (aS, .inl (cI, 128, .inl (gN Sv))), (aI, .inl (cI, 60, .inl (gN In))), (aL, .inl (cC, 40, .inl (gN Le))), (aT, .inl (cI, 360, .inl To))]) {b : Nat} (hG : gWf b G) (c : Int32) (hch : ch ≤ 8) : Met l yX7_threshold wsX7_threshold ({ frames := 3, cells := 0, slots := 0, locals := 66 }) (va_Pc [.ref h, .int c] (sPre D [(cI, .int), (cC, .char)] [] (fun H => va_P D vwCl [(h, .inr (9, [.ref aG, .ref aB, .ref aH, .int (nI ch), .ref aS, .int (nI hs), .ref aI, .int (nI ty), .int ea, .int ra, .int (nI wy), .int wd, .ref aL, .int (nI ln), .int (nI th), .int (nI sp), .int (nI iw), .ref aT])), (aG, .inl (cI, 128, .inl (gN G))), (aB, .inl (cI, 128, .inl (gN B))), (aH, .inl (cI, 1024, .inl (gN Hi))), (aS, .inl (cI, 128, .inl (gN Sv))), (aI, .inl (cI, 60, .inl (gN In))), (aL, .inl (cC, 40, .inl (gN Le))), (aT, .inl (cI, 360, .inl To))] H))) (mQ D ((vSill G c).2.2.2.1) [(h, .inr (9, [.ref aG, .ref aB, .ref aH, .int (nI ((if (vSill G c).1 = 0 then (if ch = 8 then 8 else ch + 1) else ch))), .ref aS, .int (nI hs), .ref aI, .int (nI ty), .int ea, .int ra, .int (nI (vWy (vSill G c) wy)), .int (vWd (vSill G c) wd), .ref aL, .int (nI ln), .int (nI ((vSill G c).1)), .int (nI sp), .int (nI iw), .ref aT])), (aG, .inl (cI, 128, .inl (gN ((vSill G c).2.2.2.2)))), (aB, .inl (cI, 128, .inl (gN G))), (aH, .inl (cI, 1024, .inl (gN ((if (vSill G c).1 = 0 then hPush Hi G ch else Hi))))), (aS, .inl (cI, 128, .inl (gN Sv))), (aI, .inl (cI, 60, .inl (gN In))), (aL, .inl (cC, 40, .inl (gN Le))), (aT, .inl (cI, 360, .inl To))] A) 0 0 A := by
  refine nv_met (cc := cX7_threshold) (maxL := 2) (ret := (some .int)) (by decide) rfl (Nat.le_of_ble_eq_true rfl) ?_
  intro p0 e0 s m0 args below meth c0 Q hq hargs hnA hpre ls hl
  obtain ⟨hx, hb, hr, hts, hown, hlocks, hml⟩ := hnA
  obtain ⟨hP, hK⟩ := hpre
  have hown : s.vm.findClass RX7 = some m0.cls := hown
  have hP : va_P D vwCl [(h, .inr (9, [.ref aG, .ref aB, .ref aH, .int (nI ch), .ref aS, .int (nI hs), .ref aI, .int (nI ty), .int ea, .int ra, .int (nI wy), .int wd, .ref aL, .int (nI ln), .int (nI th), .int (nI sp), .int (nI iw), .ref aT])), (aG, .inl (cI, 128, .inl (gN G))), (aB, .inl (cI, 128, .inl (gN B))), (aH, .inl (cI, 1024, .inl (gN Hi))), (aS, .inl (cI, 128, .inl (gN Sv))), (aI, .inl (cI, 60, .inl (gN In))), (aL, .inl (cC, 40, .inl (gN Le))), (aT, .inl (cI, 360, .inl To))] s.heap := hP
  have hl : lv_has ls 2 [(0, .ref h), (1, .int c)] := hl
  have hS : va_S A s.heap s.heap [] := va_S.rf
  obtain ⟨g_b, g_k, g_0, g_1, g_2, g_e, g_d, g_t, g_y, g_s, g_h⟩ := id hG
  refine lv_aload_n hx hb dX7_threshold_0 rfl (lv_at hl 0 rfl) ?_
  refine nv_kMv (va_runV (As := []) (rest := []) ⟨hx, hb, hml, hown, hts⟩ (c_X7_looksBack l hD) (cwV 0 hts gX7_threshold_X7_looksBack rfl rfl rfl (by decide +kernel) ⟨Nat.le_of_ble_eq_true rfl, Nat.le_of_ble_eq_true rfl⟩) (nv_pV hK hP (va_recv hK.1 hP (ci := 9) (q0 := 0) rfl rfl)) rfl rfl hl.1 rfl (lv_room (Nat.le_of_ble_eq_true rfl)) dX7_threshold_1 ⟨Nat.zero_le _, Nat.zero_le _⟩) hS (fun H locs hP hS => ?_)
  have hP : va_P D vwCl [(h, .inr (9, [.ref aG, .ref aB, .ref aH, .int (nI ch), .ref aS, .int (nI hs), .ref aI, .int (nI ty), .int ea, .int ra, .int (nI wy), .int wd, .ref aL, .int (nI ln), .int (nI th), .int (nI sp), .int (nI iw), .ref aT])), (aG, .inl (cI, 128, .inl (gN G))), (aB, .inl (cI, 128, .inl (gN G))), (aH, .inl (cI, 1024, .inl (gN Hi))), (aS, .inl (cI, 128, .inl (gN Sv))), (aI, .inl (cI, 60, .inl (gN In))), (aL, .inl (cC, 40, .inl (gN Le))), (aT, .inl (cI, 360, .inl To))] H := hP
  refine lv_aload_n hx hb dX7_threshold_4 rfl (lv_at hl 0 rfl) ?_
  refine lv_aload_n hx hb dX7_threshold_5 rfl (lv_at hl 0 rfl) ?_
  refine lv_iload_n hx hb dX7_threshold_6 rfl (lv_at hl 1 rfl) ?_
  refine nv_kM (va_runV (As := [.int c]) (rest := [.ref h]) ⟨hx, hb, hml, hown, hts⟩ (c_X7_sillComes l hD hG (c)) (cwV 1 hts gX7_threshold_X7_sillComes rfl rfl rfl (by decide +kernel) ⟨Nat.le_of_ble_eq_true rfl, Nat.le_of_ble_eq_true rfl⟩) (nv_pV hK hP (va_recv hK.1 hP (ci := 9) (q0 := 0) rfl rfl)) rfl rfl hl.1 rfl (lv_room (Nat.le_of_ble_eq_true rfl)) dX7_threshold_7 ⟨Nat.zero_le _, Nat.zero_le _⟩) hS (fun H locs hP hS => ?_)
  have hP : va_P D vwCl [(h, .inr (9, [.ref aG, .ref aB, .ref aH, .int (nI ch), .ref aS, .int (nI hs), .ref aI, .int (nI ty), .int ea, .int ra, .int (nI (vWy (vSill G (c)) wy)), .int (vWd (vSill G (c)) wd), .ref aL, .int (nI ln), .int (nI ((vSill G (c)).1)), .int (nI sp), .int (nI iw), .ref aT])), (aG, .inl (cI, 128, .inl (gN ((vSill G (c)).2.2.2.2)))), (aB, .inl (cI, 128, .inl (gN G))), (aH, .inl (cI, 1024, .inl (gN Hi))), (aS, .inl (cI, 128, .inl (gN Sv))), (aI, .inl (cI, 60, .inl (gN In))), (aL, .inl (cC, 40, .inl (gN Le))), (aT, .inl (cI, 360, .inl To))] H := hP
  refine nv_kM (va_runV (As := [.int ((vSill G (c)).2.2.2.1)]) (rest := []) ⟨hx, hb, hml, hown, hts⟩ (c_X7_kept l hD ((vSill G (c)).2.2.2.1) (by omega) (Nat.lt_of_le_of_lt (vSill_n _ _) (by decide))) (cwV 1 hts gX7_threshold_X7_kept rfl rfl rfl (by decide +kernel) ⟨Nat.le_of_ble_eq_true rfl, Nat.le_of_ble_eq_true rfl⟩) (nv_pV hK hP (va_recv hK.1 hP (ci := 9) (q0 := 0) rfl rfl)) rfl rfl hl.1 rfl (lv_room (Nat.le_of_ble_eq_true rfl)) dX7_threshold_10 ⟨Nat.zero_le _, Nat.zero_le _⟩) hS (fun H locs hP hS => ?_)
  have hP : va_P D vwCl [(h, .inr (9, [.ref aG, .ref aB, .ref aH, .int (nI ((if (vSill G (c)).1 = 0 then (if ch = 8 then 8 else ch + 1) else ch))), .ref aS, .int (nI hs), .ref aI, .int (nI ty), .int ea, .int ra, .int (nI (vWy (vSill G (c)) wy)), .int (vWd (vSill G (c)) wd), .ref aL, .int (nI ln), .int (nI ((vSill G (c)).1)), .int (nI sp), .int (nI iw), .ref aT])), (aG, .inl (cI, 128, .inl (gN ((if (vSill G (c)).1 = 0 then (vSill G (c)).2.2.2.2 else G))))), (aB, .inl (cI, 128, .inl (gN G))), (aH, .inl (cI, 1024, .inl (gN ((if (vSill G (c)).1 = 0 then hPush Hi G ch else Hi))))), (aS, .inl (cI, 128, .inl (gN Sv))), (aI, .inl (cI, 60, .inl (gN In))), (aL, .inl (cC, 40, .inl (gN Le))), (aT, .inl (cI, 360, .inl To))] H := hP
  exact nv_retM hq hx hb hr hlocks (nar_i _) (kv_v (fun q => (vSill_G q).2)) hS hP (by rw [kv_G (fun q => (vSill_G q).1)]) dX7_threshold_13

set_option maxHeartbeats 1000000 in
set_option maxRecDepth 100000 in
theorem c_X7_govern (l : Launch) {D : va_G} {cI cC : ClassId} {h aG aB aH aS aI aL aT : Nat} {G B Hi Sv In Le : Nat → Nat} {To : Nat → Int32} {ch hs ty wy ln th sp iw : Nat} {ea ra wd : Int32} {A : Nat → Prop} (hD : ∀ (G B Hi Sv In Le : Nat → Nat) (To : Nat → Int32) (fs : List Value), va_D A [(h, .inr (9, fs)), (aG, .inl (cI, 128, .inl (gN G))), (aB, .inl (cI, 128, .inl (gN B))), (aH, .inl (cI, 1024, .inl (gN Hi))), (aS, .inl (cI, 128, .inl (gN Sv))), (aI, .inl (cI, 60, .inl (gN In))), (aL, .inl (cC, 40, .inl (gN Le))), (aT, .inl (cI, 360, .inl To))]) {b : Nat} (hG : gWf b G) (t c : Int32) (hch : ch ≤ 8) : Met l yX7_govern wsX7_govern ({ frames := 3, cells := 0, slots := 0, locals := 67 }) (va_Pc [.ref h, .int t, .int c] (sPre D [(cI, .int), (cC, .char)] [] (fun H => va_P D vwCl [(h, .inr (9, [.ref aG, .ref aB, .ref aH, .int (nI ch), .ref aS, .int (nI hs), .ref aI, .int (nI ty), .int ea, .int ra, .int (nI wy), .int wd, .ref aL, .int (nI ln), .int (nI th), .int (nI sp), .int (nI iw), .ref aT])), (aG, .inl (cI, 128, .inl (gN G))), (aB, .inl (cI, 128, .inl (gN B))), (aH, .inl (cI, 1024, .inl (gN Hi))), (aS, .inl (cI, 128, .inl (gN Sv))), (aI, .inl (cI, 60, .inl (gN In))), (aL, .inl (cC, 40, .inl (gN Le))), (aT, .inl (cI, 360, .inl To))] H))) (mQ D ((vGovern G t c).2.2.2.1) [(h, .inr (9, [.ref aG, .ref aB, .ref aH, .int (nI ((if (vGovern G t c).1 = 0 then (if ch = 8 then 8 else ch + 1) else ch))), .ref aS, .int (nI hs), .ref aI, .int (nI ty), .int ea, .int ra, .int (nI (vWy (vGovern G t c) wy)), .int (vWd (vGovern G t c) wd), .ref aL, .int (nI ln), .int (nI ((vGovern G t c).1)), .int (nI sp), .int (nI iw), .ref aT])), (aG, .inl (cI, 128, .inl (gN ((vGovern G t c).2.2.2.2)))), (aB, .inl (cI, 128, .inl (gN G))), (aH, .inl (cI, 1024, .inl (gN ((if (vGovern G t c).1 = 0 then hPush Hi G ch else Hi))))), (aS, .inl (cI, 128, .inl (gN Sv))), (aI, .inl (cI, 60, .inl (gN In))), (aL, .inl (cC, 40, .inl (gN Le))), (aT, .inl (cI, 360, .inl To))] A) 0 0 A := by
  refine nv_met (cc := cX7_govern) (maxL := 3) (ret := (some .int)) (by decide) rfl (Nat.le_of_ble_eq_true rfl) ?_
  intro p0 e0 s m0 args below meth c0 Q hq hargs hnA hpre ls hl
  obtain ⟨hx, hb, hr, hts, hown, hlocks, hml⟩ := hnA
  obtain ⟨hP, hK⟩ := hpre
  have hown : s.vm.findClass RX7 = some m0.cls := hown
  have hP : va_P D vwCl [(h, .inr (9, [.ref aG, .ref aB, .ref aH, .int (nI ch), .ref aS, .int (nI hs), .ref aI, .int (nI ty), .int ea, .int ra, .int (nI wy), .int wd, .ref aL, .int (nI ln), .int (nI th), .int (nI sp), .int (nI iw), .ref aT])), (aG, .inl (cI, 128, .inl (gN G))), (aB, .inl (cI, 128, .inl (gN B))), (aH, .inl (cI, 1024, .inl (gN Hi))), (aS, .inl (cI, 128, .inl (gN Sv))), (aI, .inl (cI, 60, .inl (gN In))), (aL, .inl (cC, 40, .inl (gN Le))), (aT, .inl (cI, 360, .inl To))] s.heap := hP
  have hl : lv_has ls 3 [(0, .ref h), (1, .int t), (2, .int c)] := hl
  have hS : va_S A s.heap s.heap [] := va_S.rf
  obtain ⟨g_b, g_k, g_0, g_1, g_2, g_e, g_d, g_t, g_y, g_s, g_h⟩ := id hG
  refine lv_aload_n hx hb dX7_govern_0 rfl (lv_at hl 0 rfl) ?_
  refine nv_kMv (va_runV (As := []) (rest := []) ⟨hx, hb, hml, hown, hts⟩ (c_X7_looksBack l hD) (cwV 0 hts gX7_govern_X7_looksBack rfl rfl rfl (by decide +kernel) ⟨Nat.le_of_ble_eq_true rfl, Nat.le_of_ble_eq_true rfl⟩) (nv_pV hK hP (va_recv hK.1 hP (ci := 9) (q0 := 0) rfl rfl)) rfl rfl hl.1 rfl (lv_room (Nat.le_of_ble_eq_true rfl)) dX7_govern_1 ⟨Nat.zero_le _, Nat.zero_le _⟩) hS (fun H locs hP hS => ?_)
  have hP : va_P D vwCl [(h, .inr (9, [.ref aG, .ref aB, .ref aH, .int (nI ch), .ref aS, .int (nI hs), .ref aI, .int (nI ty), .int ea, .int ra, .int (nI wy), .int wd, .ref aL, .int (nI ln), .int (nI th), .int (nI sp), .int (nI iw), .ref aT])), (aG, .inl (cI, 128, .inl (gN G))), (aB, .inl (cI, 128, .inl (gN G))), (aH, .inl (cI, 1024, .inl (gN Hi))), (aS, .inl (cI, 128, .inl (gN Sv))), (aI, .inl (cI, 60, .inl (gN In))), (aL, .inl (cC, 40, .inl (gN Le))), (aT, .inl (cI, 360, .inl To))] H := hP
  refine lv_aload_n hx hb dX7_govern_4 rfl (lv_at hl 0 rfl) ?_
  refine lv_aload_n hx hb dX7_govern_5 rfl (lv_at hl 0 rfl) ?_
  refine lv_iload_n hx hb dX7_govern_6 rfl (lv_at hl 1 rfl) ?_
  refine lv_iload_n hx hb dX7_govern_7 rfl (lv_at hl 2 rfl) ?_
  refine nv_kM (va_runV (As := [.int t, .int c]) (rest := [.ref h]) ⟨hx, hb, hml, hown, hts⟩ (c_X7_governs l hD hG (t) (c)) (cwV 2 hts gX7_govern_X7_governs rfl rfl rfl (by decide +kernel) ⟨Nat.le_of_ble_eq_true rfl, Nat.le_of_ble_eq_true rfl⟩) (nv_pV hK hP (va_recv hK.1 hP (ci := 9) (q0 := 0) rfl rfl)) rfl rfl hl.1 rfl (lv_room (Nat.le_of_ble_eq_true rfl)) dX7_govern_8 ⟨Nat.zero_le _, Nat.zero_le _⟩) hS (fun H locs hP hS => ?_)
  have hP : va_P D vwCl [(h, .inr (9, [.ref aG, .ref aB, .ref aH, .int (nI ch), .ref aS, .int (nI hs), .ref aI, .int (nI ty), .int ea, .int ra, .int (nI (vWy (vGovern G (t) (c)) wy)), .int (vWd (vGovern G (t) (c)) wd), .ref aL, .int (nI ln), .int (nI ((vGovern G (t) (c)).1)), .int (nI sp), .int (nI iw), .ref aT])), (aG, .inl (cI, 128, .inl (gN ((vGovern G (t) (c)).2.2.2.2)))), (aB, .inl (cI, 128, .inl (gN G))), (aH, .inl (cI, 1024, .inl (gN Hi))), (aS, .inl (cI, 128, .inl (gN Sv))), (aI, .inl (cI, 60, .inl (gN In))), (aL, .inl (cC, 40, .inl (gN Le))), (aT, .inl (cI, 360, .inl To))] H := hP
  refine nv_kM (va_runV (As := [.int ((vGovern G (t) (c)).2.2.2.1)]) (rest := []) ⟨hx, hb, hml, hown, hts⟩ (c_X7_kept l hD ((vGovern G (t) (c)).2.2.2.1) (by omega) (Nat.lt_of_le_of_lt (vGovern_n _ _ _) (by decide))) (cwV 1 hts gX7_govern_X7_kept rfl rfl rfl (by decide +kernel) ⟨Nat.le_of_ble_eq_true rfl, Nat.le_of_ble_eq_true rfl⟩) (nv_pV hK hP (va_recv hK.1 hP (ci := 9) (q0 := 0) rfl rfl)) rfl rfl hl.1 rfl (lv_room (Nat.le_of_ble_eq_true rfl)) dX7_govern_11 ⟨Nat.zero_le _, Nat.zero_le _⟩) hS (fun H locs hP hS => ?_)
  have hP : va_P D vwCl [(h, .inr (9, [.ref aG, .ref aB, .ref aH, .int (nI ((if (vGovern G (t) (c)).1 = 0 then (if ch = 8 then 8 else ch + 1) else ch))), .ref aS, .int (nI hs), .ref aI, .int (nI ty), .int ea, .int ra, .int (nI (vWy (vGovern G (t) (c)) wy)), .int (vWd (vGovern G (t) (c)) wd), .ref aL, .int (nI ln), .int (nI ((vGovern G (t) (c)).1)), .int (nI sp), .int (nI iw), .ref aT])), (aG, .inl (cI, 128, .inl (gN ((if (vGovern G (t) (c)).1 = 0 then (vGovern G (t) (c)).2.2.2.2 else G))))), (aB, .inl (cI, 128, .inl (gN G))), (aH, .inl (cI, 1024, .inl (gN ((if (vGovern G (t) (c)).1 = 0 then hPush Hi G ch else Hi))))), (aS, .inl (cI, 128, .inl (gN Sv))), (aI, .inl (cI, 60, .inl (gN In))), (aL, .inl (cC, 40, .inl (gN Le))), (aT, .inl (cI, 360, .inl To))] H := hP
  exact nv_retM hq hx hb hr hlocks (nar_i _) (kv_v (fun q => (vGovern_G q).2)) hS hP (by rw [kv_G (fun q => (vGovern_G q).1)]) dX7_govern_14

set_option maxHeartbeats 1000000 in
set_option maxRecDepth 100000 in
theorem c_X7_set (l : Launch) {D : va_G} {cI cC : ClassId} {h aG aB aH aS aI aL aT : Nat} {G B Hi Sv In Le : Nat → Nat} {To : Nat → Int32} {ch hs ty wy ln th sp iw : Nat} {ea ra wd : Int32} {A : Nat → Prop} (hD : ∀ (G B Hi Sv In Le : Nat → Nat) (To : Nat → Int32) (fs : List Value), va_D A [(h, .inr (9, fs)), (aG, .inl (cI, 128, .inl (gN G))), (aB, .inl (cI, 128, .inl (gN B))), (aH, .inl (cI, 1024, .inl (gN Hi))), (aS, .inl (cI, 128, .inl (gN Sv))), (aI, .inl (cI, 60, .inl (gN In))), (aL, .inl (cC, 40, .inl (gN Le))), (aT, .inl (cI, 360, .inl To))]) {b : Nat} (hG : gWf b G) (d t : Int32) (hch : ch ≤ 8) : Met l yX7_set wsX7_set ({ frames := 3, cells := 0, slots := 0, locals := 66 }) (va_Pc [.ref h, .int d, .int t] (sPre D [(cI, .int), (cC, .char)] [] (fun H => va_P D vwCl [(h, .inr (9, [.ref aG, .ref aB, .ref aH, .int (nI ch), .ref aS, .int (nI hs), .ref aI, .int (nI ty), .int ea, .int ra, .int (nI wy), .int wd, .ref aL, .int (nI ln), .int (nI th), .int (nI sp), .int (nI iw), .ref aT])), (aG, .inl (cI, 128, .inl (gN G))), (aB, .inl (cI, 128, .inl (gN B))), (aH, .inl (cI, 1024, .inl (gN Hi))), (aS, .inl (cI, 128, .inl (gN Sv))), (aI, .inl (cI, 60, .inl (gN In))), (aL, .inl (cC, 40, .inl (gN Le))), (aT, .inl (cI, 360, .inl To))] H))) (mQ D ((vSet G d t).2.2.2.1) [(h, .inr (9, [.ref aG, .ref aB, .ref aH, .int (nI ((if (vSet G d t).1 = 0 then (if ch = 8 then 8 else ch + 1) else ch))), .ref aS, .int (nI hs), .ref aI, .int (nI ty), .int ea, .int ra, .int (nI (vWy (vSet G d t) wy)), .int (vWd (vSet G d t) wd), .ref aL, .int (nI ln), .int (nI ((vSet G d t).1)), .int (nI sp), .int (nI iw), .ref aT])), (aG, .inl (cI, 128, .inl (gN ((vSet G d t).2.2.2.2)))), (aB, .inl (cI, 128, .inl (gN G))), (aH, .inl (cI, 1024, .inl (gN ((if (vSet G d t).1 = 0 then hPush Hi G ch else Hi))))), (aS, .inl (cI, 128, .inl (gN Sv))), (aI, .inl (cI, 60, .inl (gN In))), (aL, .inl (cC, 40, .inl (gN Le))), (aT, .inl (cI, 360, .inl To))] A) 0 0 A := by
  refine nv_met (cc := cX7_set) (maxL := 3) (ret := (some .int)) (by decide) rfl (Nat.le_of_ble_eq_true rfl) ?_
  intro p0 e0 s m0 args below meth c0 Q hq hargs hnA hpre ls hl
  obtain ⟨hx, hb, hr, hts, hown, hlocks, hml⟩ := hnA
  obtain ⟨hP, hK⟩ := hpre
  have hown : s.vm.findClass RX7 = some m0.cls := hown
  have hP : va_P D vwCl [(h, .inr (9, [.ref aG, .ref aB, .ref aH, .int (nI ch), .ref aS, .int (nI hs), .ref aI, .int (nI ty), .int ea, .int ra, .int (nI wy), .int wd, .ref aL, .int (nI ln), .int (nI th), .int (nI sp), .int (nI iw), .ref aT])), (aG, .inl (cI, 128, .inl (gN G))), (aB, .inl (cI, 128, .inl (gN B))), (aH, .inl (cI, 1024, .inl (gN Hi))), (aS, .inl (cI, 128, .inl (gN Sv))), (aI, .inl (cI, 60, .inl (gN In))), (aL, .inl (cC, 40, .inl (gN Le))), (aT, .inl (cI, 360, .inl To))] s.heap := hP
  have hl : lv_has ls 3 [(0, .ref h), (1, .int d), (2, .int t)] := hl
  have hS : va_S A s.heap s.heap [] := va_S.rf
  obtain ⟨g_b, g_k, g_0, g_1, g_2, g_e, g_d, g_t, g_y, g_s, g_h⟩ := id hG
  refine lv_aload_n hx hb dX7_set_0 rfl (lv_at hl 0 rfl) ?_
  refine nv_kMv (va_runV (As := []) (rest := []) ⟨hx, hb, hml, hown, hts⟩ (c_X7_looksBack l hD) (cwV 0 hts gX7_set_X7_looksBack rfl rfl rfl (by decide +kernel) ⟨Nat.le_of_ble_eq_true rfl, Nat.le_of_ble_eq_true rfl⟩) (nv_pV hK hP (va_recv hK.1 hP (ci := 9) (q0 := 0) rfl rfl)) rfl rfl hl.1 rfl (lv_room (Nat.le_of_ble_eq_true rfl)) dX7_set_1 ⟨Nat.zero_le _, Nat.zero_le _⟩) hS (fun H locs hP hS => ?_)
  have hP : va_P D vwCl [(h, .inr (9, [.ref aG, .ref aB, .ref aH, .int (nI ch), .ref aS, .int (nI hs), .ref aI, .int (nI ty), .int ea, .int ra, .int (nI wy), .int wd, .ref aL, .int (nI ln), .int (nI th), .int (nI sp), .int (nI iw), .ref aT])), (aG, .inl (cI, 128, .inl (gN G))), (aB, .inl (cI, 128, .inl (gN G))), (aH, .inl (cI, 1024, .inl (gN Hi))), (aS, .inl (cI, 128, .inl (gN Sv))), (aI, .inl (cI, 60, .inl (gN In))), (aL, .inl (cC, 40, .inl (gN Le))), (aT, .inl (cI, 360, .inl To))] H := hP
  refine lv_aload_n hx hb dX7_set_4 rfl (lv_at hl 0 rfl) ?_
  refine lv_aload_n hx hb dX7_set_5 rfl (lv_at hl 0 rfl) ?_
  refine lv_iload_n hx hb dX7_set_6 rfl (lv_at hl 1 rfl) ?_
  refine lv_iload_n hx hb dX7_set_7 rfl (lv_at hl 2 rfl) ?_
  refine nv_kM (va_runV (As := [.int d, .int t]) (rest := [.ref h]) ⟨hx, hb, hml, hown, hts⟩ (c_X7_sets l hD hG (d) (t)) (cwV 2 hts gX7_set_X7_sets rfl rfl rfl (by decide +kernel) ⟨Nat.le_of_ble_eq_true rfl, Nat.le_of_ble_eq_true rfl⟩) (nv_pV hK hP (va_recv hK.1 hP (ci := 9) (q0 := 0) rfl rfl)) rfl rfl hl.1 rfl (lv_room (Nat.le_of_ble_eq_true rfl)) dX7_set_8 ⟨Nat.zero_le _, Nat.zero_le _⟩) hS (fun H locs hP hS => ?_)
  have hP : va_P D vwCl [(h, .inr (9, [.ref aG, .ref aB, .ref aH, .int (nI ch), .ref aS, .int (nI hs), .ref aI, .int (nI ty), .int ea, .int ra, .int (nI (vWy (vSet G (d) (t)) wy)), .int (vWd (vSet G (d) (t)) wd), .ref aL, .int (nI ln), .int (nI ((vSet G (d) (t)).1)), .int (nI sp), .int (nI iw), .ref aT])), (aG, .inl (cI, 128, .inl (gN ((vSet G (d) (t)).2.2.2.2)))), (aB, .inl (cI, 128, .inl (gN G))), (aH, .inl (cI, 1024, .inl (gN Hi))), (aS, .inl (cI, 128, .inl (gN Sv))), (aI, .inl (cI, 60, .inl (gN In))), (aL, .inl (cC, 40, .inl (gN Le))), (aT, .inl (cI, 360, .inl To))] H := hP
  refine nv_kM (va_runV (As := [.int ((vSet G (d) (t)).2.2.2.1)]) (rest := []) ⟨hx, hb, hml, hown, hts⟩ (c_X7_kept l hD ((vSet G (d) (t)).2.2.2.1) (by omega) (Nat.lt_of_le_of_lt (vSet_n _ _ _) (by decide))) (cwV 1 hts gX7_set_X7_kept rfl rfl rfl (by decide +kernel) ⟨Nat.le_of_ble_eq_true rfl, Nat.le_of_ble_eq_true rfl⟩) (nv_pV hK hP (va_recv hK.1 hP (ci := 9) (q0 := 0) rfl rfl)) rfl rfl hl.1 rfl (lv_room (Nat.le_of_ble_eq_true rfl)) dX7_set_11 ⟨Nat.zero_le _, Nat.zero_le _⟩) hS (fun H locs hP hS => ?_)
  have hP : va_P D vwCl [(h, .inr (9, [.ref aG, .ref aB, .ref aH, .int (nI ((if (vSet G (d) (t)).1 = 0 then (if ch = 8 then 8 else ch + 1) else ch))), .ref aS, .int (nI hs), .ref aI, .int (nI ty), .int ea, .int ra, .int (nI (vWy (vSet G (d) (t)) wy)), .int (vWd (vSet G (d) (t)) wd), .ref aL, .int (nI ln), .int (nI ((vSet G (d) (t)).1)), .int (nI sp), .int (nI iw), .ref aT])), (aG, .inl (cI, 128, .inl (gN ((if (vSet G (d) (t)).1 = 0 then (vSet G (d) (t)).2.2.2.2 else G))))), (aB, .inl (cI, 128, .inl (gN G))), (aH, .inl (cI, 1024, .inl (gN ((if (vSet G (d) (t)).1 = 0 then hPush Hi G ch else Hi))))), (aS, .inl (cI, 128, .inl (gN Sv))), (aI, .inl (cI, 60, .inl (gN In))), (aL, .inl (cC, 40, .inl (gN Le))), (aT, .inl (cI, 360, .inl To))] H := hP
  exact nv_retM hq hx hb hr hlocks (nar_i _) (kv_v (fun q => (vSet_G q).2)) hS hP (by rw [kv_G (fun q => (vSet_G q).1)]) dX7_set_14

set_option maxHeartbeats 1000000 in
set_option maxRecDepth 100000 in
theorem c_X7_tellEnding (l : Launch) {D : va_G} {cI cC : ClassId} {h aG aB aH aS aI aL aT : Nat} {G B Hi Sv In Le : Nat → Nat} {To : Nat → Int32} {ch hs ty wy ln th sp iw : Nat} {ea ra wd : Int32} {A : Nat → Prop} (hD : ∀ (G B Hi Sv In Le : Nat → Nat) (To : Nat → Int32) (fs : List Value), va_D A [(h, .inr (9, fs)), (aG, .inl (cI, 128, .inl (gN G))), (aB, .inl (cI, 128, .inl (gN B))), (aH, .inl (cI, 1024, .inl (gN Hi))), (aS, .inl (cI, 128, .inl (gN Sv))), (aI, .inl (cI, 60, .inl (gN In))), (aL, .inl (cC, 40, .inl (gN Le))), (aT, .inl (cI, 360, .inl To))]) {b : Nat} (hG : gWf b G) (a c : Int32) (z : Nat) (x : Int32) (hz : z ≤ 1) (hch : ch ≤ 8) : Met l yX7_tellEnding wsX7_tellEnding ({ frames := 3, cells := 0, slots := 0, locals := 70 }) (va_Pc [.ref h, .int a, .int c, .int (nI z), .int x] (sPre D [(cI, .int), (cC, .char)] [] (fun H => va_P D vwCl [(h, .inr (9, [.ref aG, .ref aB, .ref aH, .int (nI ch), .ref aS, .int (nI hs), .ref aI, .int (nI ty), .int ea, .int ra, .int (nI wy), .int wd, .ref aL, .int (nI ln), .int (nI th), .int (nI sp), .int (nI iw), .ref aT])), (aG, .inl (cI, 128, .inl (gN G))), (aB, .inl (cI, 128, .inl (gN B))), (aH, .inl (cI, 1024, .inl (gN Hi))), (aS, .inl (cI, 128, .inl (gN Sv))), (aI, .inl (cI, 60, .inl (gN In))), (aL, .inl (cC, 40, .inl (gN Le))), (aT, .inl (cI, 360, .inl To))] H))) (mQ D ((vTell G a c z x).2.2.2.1) [(h, .inr (9, [.ref aG, .ref aB, .ref aH, .int (nI ((if (vTell G a c z x).1 = 0 then (if ch = 8 then 8 else ch + 1) else ch))), .ref aS, .int (nI hs), .ref aI, .int (nI ty), .int ea, .int ra, .int (nI (vWy (vTell G a c z x) wy)), .int (vWd (vTell G a c z x) wd), .ref aL, .int (nI ln), .int (nI ((vTell G a c z x).1)), .int (nI sp), .int (nI iw), .ref aT])), (aG, .inl (cI, 128, .inl (gN ((vTell G a c z x).2.2.2.2)))), (aB, .inl (cI, 128, .inl (gN G))), (aH, .inl (cI, 1024, .inl (gN ((if (vTell G a c z x).1 = 0 then hPush Hi G ch else Hi))))), (aS, .inl (cI, 128, .inl (gN Sv))), (aI, .inl (cI, 60, .inl (gN In))), (aL, .inl (cC, 40, .inl (gN Le))), (aT, .inl (cI, 360, .inl To))] A) 0 0 A := by
  refine nv_met (cc := cX7_tellEnding) (maxL := 5) (ret := (some .int)) (by decide) rfl (Nat.le_of_ble_eq_true rfl) ?_
  intro p0 e0 s m0 args below meth c0 Q hq hargs hnA hpre ls hl
  obtain ⟨hx, hb, hr, hts, hown, hlocks, hml⟩ := hnA
  obtain ⟨hP, hK⟩ := hpre
  have hown : s.vm.findClass RX7 = some m0.cls := hown
  have hP : va_P D vwCl [(h, .inr (9, [.ref aG, .ref aB, .ref aH, .int (nI ch), .ref aS, .int (nI hs), .ref aI, .int (nI ty), .int ea, .int ra, .int (nI wy), .int wd, .ref aL, .int (nI ln), .int (nI th), .int (nI sp), .int (nI iw), .ref aT])), (aG, .inl (cI, 128, .inl (gN G))), (aB, .inl (cI, 128, .inl (gN B))), (aH, .inl (cI, 1024, .inl (gN Hi))), (aS, .inl (cI, 128, .inl (gN Sv))), (aI, .inl (cI, 60, .inl (gN In))), (aL, .inl (cC, 40, .inl (gN Le))), (aT, .inl (cI, 360, .inl To))] s.heap := hP
  have hl : lv_has ls 5 [(0, .ref h), (1, .int a), (2, .int c), (3, .int (nI z)), (4, .int x)] := hl
  have hS : va_S A s.heap s.heap [] := va_S.rf
  obtain ⟨g_b, g_k, g_0, g_1, g_2, g_e, g_d, g_t, g_y, g_s, g_h⟩ := id hG
  refine lv_aload_n hx hb dX7_tellEnding_0 rfl (lv_at hl 0 rfl) ?_
  refine nv_kMv (va_runV (As := []) (rest := []) ⟨hx, hb, hml, hown, hts⟩ (c_X7_looksBack l hD) (cwV 0 hts gX7_tellEnding_X7_looksBack rfl rfl rfl (by decide +kernel) ⟨Nat.le_of_ble_eq_true rfl, Nat.le_of_ble_eq_true rfl⟩) (nv_pV hK hP (va_recv hK.1 hP (ci := 9) (q0 := 0) rfl rfl)) rfl rfl hl.1 rfl (lv_room (Nat.le_of_ble_eq_true rfl)) dX7_tellEnding_1 ⟨Nat.zero_le _, Nat.zero_le _⟩) hS (fun H locs hP hS => ?_)
  have hP : va_P D vwCl [(h, .inr (9, [.ref aG, .ref aB, .ref aH, .int (nI ch), .ref aS, .int (nI hs), .ref aI, .int (nI ty), .int ea, .int ra, .int (nI wy), .int wd, .ref aL, .int (nI ln), .int (nI th), .int (nI sp), .int (nI iw), .ref aT])), (aG, .inl (cI, 128, .inl (gN G))), (aB, .inl (cI, 128, .inl (gN G))), (aH, .inl (cI, 1024, .inl (gN Hi))), (aS, .inl (cI, 128, .inl (gN Sv))), (aI, .inl (cI, 60, .inl (gN In))), (aL, .inl (cC, 40, .inl (gN Le))), (aT, .inl (cI, 360, .inl To))] H := hP
  refine lv_aload_n hx hb dX7_tellEnding_4 rfl (lv_at hl 0 rfl) ?_
  refine lv_aload_n hx hb dX7_tellEnding_5 rfl (lv_at hl 0 rfl) ?_
  refine lv_iload_n hx hb dX7_tellEnding_6 rfl (lv_at hl 1 rfl) ?_
  refine lv_iload_n hx hb dX7_tellEnding_7 rfl (lv_at hl 2 rfl) ?_
  refine lv_iload_n hx hb dX7_tellEnding_8 rfl (lv_at hl 3 rfl) ?_
  refine nv_jn (α := Nat) (fun r => W p0 l e0 ({ frames := 3, cells := 0, slots := 0, locals := 70 }) s m0 args below meth c0 H locs 0 0 Q (F0 m0 17 ls (.int (nI r) :: [.int c, .int a, .ref h, .ref h]))) ((if z = 0 then 0 else 1)) (fun r er => ?_) (fun hJ => ?_)
  · subst er
    refine nv_to z (nv_z01 hz) ?_
    refine lv_iload hx hb dX7_tellEnding_17 (lv_at hl 4 rfl) ?_
    refine nv_kM (va_runV (As := [.int a, .int c, .int (nI z), .int x]) (rest := [.ref h]) ⟨hx, hb, hml, hown, hts⟩ (c_X7_tells l hD hG (a) (c) z (x) (by first | exact bI_le _ | omega)) (cwV 4 hts gX7_tellEnding_X7_tells rfl rfl rfl (by decide +kernel) ⟨Nat.le_of_ble_eq_true rfl, Nat.le_of_ble_eq_true rfl⟩) (nv_pV hK hP (va_recv hK.1 hP (ci := 9) (q0 := 0) rfl rfl)) rfl rfl hl.1 rfl (lv_room (Nat.le_of_ble_eq_true rfl)) dX7_tellEnding_19 ⟨Nat.zero_le _, Nat.zero_le _⟩) hS (fun H locs hP hS => ?_)
    have hP : va_P D vwCl [(h, .inr (9, [.ref aG, .ref aB, .ref aH, .int (nI ch), .ref aS, .int (nI hs), .ref aI, .int (nI ty), .int ea, .int ra, .int (nI (vWy (vTell G (a) (c) z (x)) wy)), .int (vWd (vTell G (a) (c) z (x)) wd), .ref aL, .int (nI ln), .int (nI ((vTell G (a) (c) z (x)).1)), .int (nI sp), .int (nI iw), .ref aT])), (aG, .inl (cI, 128, .inl (gN ((vTell G (a) (c) z (x)).2.2.2.2)))), (aB, .inl (cI, 128, .inl (gN G))), (aH, .inl (cI, 1024, .inl (gN Hi))), (aS, .inl (cI, 128, .inl (gN Sv))), (aI, .inl (cI, 60, .inl (gN In))), (aL, .inl (cC, 40, .inl (gN Le))), (aT, .inl (cI, 360, .inl To))] H := hP
    refine nv_kM (va_runV (As := [.int ((vTell G (a) (c) z (x)).2.2.2.1)]) (rest := []) ⟨hx, hb, hml, hown, hts⟩ (c_X7_kept l hD ((vTell G (a) (c) z (x)).2.2.2.1) (by omega) (Nat.lt_of_le_of_lt (vTell_n _ _ _ _ _) (by decide))) (cwV 1 hts gX7_tellEnding_X7_kept rfl rfl rfl (by decide +kernel) ⟨Nat.le_of_ble_eq_true rfl, Nat.le_of_ble_eq_true rfl⟩) (nv_pV hK hP (va_recv hK.1 hP (ci := 9) (q0 := 0) rfl rfl)) rfl rfl hl.1 rfl (lv_room (Nat.le_of_ble_eq_true rfl)) dX7_tellEnding_22 ⟨Nat.zero_le _, Nat.zero_le _⟩) hS (fun H locs hP hS => ?_)
    have hP : va_P D vwCl [(h, .inr (9, [.ref aG, .ref aB, .ref aH, .int (nI ((if (vTell G (a) (c) z (x)).1 = 0 then (if ch = 8 then 8 else ch + 1) else ch))), .ref aS, .int (nI hs), .ref aI, .int (nI ty), .int ea, .int ra, .int (nI (vWy (vTell G (a) (c) z (x)) wy)), .int (vWd (vTell G (a) (c) z (x)) wd), .ref aL, .int (nI ln), .int (nI ((vTell G (a) (c) z (x)).1)), .int (nI sp), .int (nI iw), .ref aT])), (aG, .inl (cI, 128, .inl (gN ((if (vTell G (a) (c) z (x)).1 = 0 then (vTell G (a) (c) z (x)).2.2.2.2 else G))))), (aB, .inl (cI, 128, .inl (gN G))), (aH, .inl (cI, 1024, .inl (gN ((if (vTell G (a) (c) z (x)).1 = 0 then hPush Hi G ch else Hi))))), (aS, .inl (cI, 128, .inl (gN Sv))), (aI, .inl (cI, 60, .inl (gN In))), (aL, .inl (cC, 40, .inl (gN Le))), (aT, .inl (cI, 360, .inl To))] H := hP
    exact nv_retM hq hx hb hr hlocks (nar_i _) (kv_v (fun q => (vTell_G q).2)) hS hP (by rw [kv_G (fun q => (vTell_G q).1)]) dX7_tellEnding_25
  · refine nv_if_eq (tgt := 16) hx hb dX7_tellEnding_9 (by decide) (by omega) (fun c1 => ?_) (fun c1 => ?_)
    · refine lv_iconst (v := nI 0) hx hb dX7_tellEnding_16 (by decide) ?_
      exact hJ _ (if_pos c1).symm
    · refine lv_iconst (v := nI 1) hx hb dX7_tellEnding_12 (by decide) ?_
      refine lv_goto (tgt := 17) hx hb dX7_tellEnding_13 (by decide) ?_
      exact hJ _ (if_neg c1).symm

set_option maxHeartbeats 1000000 in
set_option maxRecDepth 100000 in
theorem c_X7_key (l : Launch) {D : va_G} {cI cC : ClassId} {h aG aB aH aS aI aL aT : Nat} {G B Hi Sv In Le : Nat → Nat} {To : Nat → Int32} {ch hs ty wy ln th sp iw : Nat} {ea ra wd : Int32} {A : Nat → Prop} (hD : ∀ (G B Hi Sv In Le : Nat → Nat) (To : Nat → Int32) (fs : List Value), va_D A [(h, .inr (9, fs)), (aG, .inl (cI, 128, .inl (gN G))), (aB, .inl (cI, 128, .inl (gN B))), (aH, .inl (cI, 1024, .inl (gN Hi))), (aS, .inl (cI, 128, .inl (gN Sv))), (aI, .inl (cI, 60, .inl (gN In))), (aL, .inl (cC, 40, .inl (gN Le))), (aT, .inl (cI, 360, .inl To))]) {b : Nat} (hG : gWf b G) (a g : Int32) (hch : ch ≤ 8) : Met l yX7_key wsX7_key ({ frames := 3, cells := 0, slots := 0, locals := 70 }) (va_Pc [.ref h, .int a, .int g] (sPre D [(cI, .int), (cC, .char)] [] (fun H => va_P D vwCl [(h, .inr (9, [.ref aG, .ref aB, .ref aH, .int (nI ch), .ref aS, .int (nI hs), .ref aI, .int (nI ty), .int ea, .int ra, .int (nI wy), .int wd, .ref aL, .int (nI ln), .int (nI th), .int (nI sp), .int (nI iw), .ref aT])), (aG, .inl (cI, 128, .inl (gN G))), (aB, .inl (cI, 128, .inl (gN B))), (aH, .inl (cI, 1024, .inl (gN Hi))), (aS, .inl (cI, 128, .inl (gN Sv))), (aI, .inl (cI, 60, .inl (gN In))), (aL, .inl (cC, 40, .inl (gN Le))), (aT, .inl (cI, 360, .inl To))] H))) (mQ D ((vKey G a g).2.2.2.1) [(h, .inr (9, [.ref aG, .ref aB, .ref aH, .int (nI ((if (vKey G a g).1 = 0 then (if ch = 8 then 8 else ch + 1) else ch))), .ref aS, .int (nI hs), .ref aI, .int (nI ty), .int ea, .int ra, .int (nI (vWy (vKey G a g) wy)), .int (vWd (vKey G a g) wd), .ref aL, .int (nI ln), .int (nI ((vKey G a g).1)), .int (nI sp), .int (nI iw), .ref aT])), (aG, .inl (cI, 128, .inl (gN ((vKey G a g).2.2.2.2)))), (aB, .inl (cI, 128, .inl (gN G))), (aH, .inl (cI, 1024, .inl (gN ((if (vKey G a g).1 = 0 then hPush Hi G ch else Hi))))), (aS, .inl (cI, 128, .inl (gN Sv))), (aI, .inl (cI, 60, .inl (gN In))), (aL, .inl (cC, 40, .inl (gN Le))), (aT, .inl (cI, 360, .inl To))] A) 0 0 A := by
  refine nv_met (cc := cX7_key) (maxL := 3) (ret := (some .int)) (by decide) rfl (Nat.le_of_ble_eq_true rfl) ?_
  intro p0 e0 s m0 args below meth c0 Q hq hargs hnA hpre ls hl
  obtain ⟨hx, hb, hr, hts, hown, hlocks, hml⟩ := hnA
  obtain ⟨hP, hK⟩ := hpre
  have hown : s.vm.findClass RX7 = some m0.cls := hown
  have hP : va_P D vwCl [(h, .inr (9, [.ref aG, .ref aB, .ref aH, .int (nI ch), .ref aS, .int (nI hs), .ref aI, .int (nI ty), .int ea, .int ra, .int (nI wy), .int wd, .ref aL, .int (nI ln), .int (nI th), .int (nI sp), .int (nI iw), .ref aT])), (aG, .inl (cI, 128, .inl (gN G))), (aB, .inl (cI, 128, .inl (gN B))), (aH, .inl (cI, 1024, .inl (gN Hi))), (aS, .inl (cI, 128, .inl (gN Sv))), (aI, .inl (cI, 60, .inl (gN In))), (aL, .inl (cC, 40, .inl (gN Le))), (aT, .inl (cI, 360, .inl To))] s.heap := hP
  have hl : lv_has ls 3 [(0, .ref h), (1, .int a), (2, .int g)] := hl
  have hS : va_S A s.heap s.heap [] := va_S.rf
  obtain ⟨g_b, g_k, g_0, g_1, g_2, g_e, g_d, g_t, g_y, g_s, g_h⟩ := id hG
  refine lv_aload_n hx hb dX7_key_0 rfl (lv_at hl 0 rfl) ?_
  refine nv_kMv (va_runV (As := []) (rest := []) ⟨hx, hb, hml, hown, hts⟩ (c_X7_looksBack l hD) (cwV 0 hts gX7_key_X7_looksBack rfl rfl rfl (by decide +kernel) ⟨Nat.le_of_ble_eq_true rfl, Nat.le_of_ble_eq_true rfl⟩) (nv_pV hK hP (va_recv hK.1 hP (ci := 9) (q0 := 0) rfl rfl)) rfl rfl hl.1 rfl (lv_room (Nat.le_of_ble_eq_true rfl)) dX7_key_1 ⟨Nat.zero_le _, Nat.zero_le _⟩) hS (fun H locs hP hS => ?_)
  have hP : va_P D vwCl [(h, .inr (9, [.ref aG, .ref aB, .ref aH, .int (nI ch), .ref aS, .int (nI hs), .ref aI, .int (nI ty), .int ea, .int ra, .int (nI wy), .int wd, .ref aL, .int (nI ln), .int (nI th), .int (nI sp), .int (nI iw), .ref aT])), (aG, .inl (cI, 128, .inl (gN G))), (aB, .inl (cI, 128, .inl (gN G))), (aH, .inl (cI, 1024, .inl (gN Hi))), (aS, .inl (cI, 128, .inl (gN Sv))), (aI, .inl (cI, 60, .inl (gN In))), (aL, .inl (cC, 40, .inl (gN Le))), (aT, .inl (cI, 360, .inl To))] H := hP
  refine lv_aload_n hx hb dX7_key_4 rfl (lv_at hl 0 rfl) ?_
  refine lv_aload_n hx hb dX7_key_5 rfl (lv_at hl 0 rfl) ?_
  refine lv_iload_n hx hb dX7_key_6 rfl (lv_at hl 1 rfl) ?_
  refine lv_iload_n hx hb dX7_key_7 rfl (lv_at hl 2 rfl) ?_
  refine nv_kM (va_runV (As := [.int a, .int g]) (rest := [.ref h]) ⟨hx, hb, hml, hown, hts⟩ (c_X7_keyComes l hD hG (a) (g)) (cwV 2 hts gX7_key_X7_keyComes rfl rfl rfl (by decide +kernel) ⟨Nat.le_of_ble_eq_true rfl, Nat.le_of_ble_eq_true rfl⟩) (nv_pV hK hP (va_recv hK.1 hP (ci := 9) (q0 := 0) rfl rfl)) rfl rfl hl.1 rfl (lv_room (Nat.le_of_ble_eq_true rfl)) dX7_key_8 ⟨Nat.zero_le _, Nat.zero_le _⟩) hS (fun H locs hP hS => ?_)
  have hP : va_P D vwCl [(h, .inr (9, [.ref aG, .ref aB, .ref aH, .int (nI ch), .ref aS, .int (nI hs), .ref aI, .int (nI ty), .int ea, .int ra, .int (nI (vWy (vKey G (a) (g)) wy)), .int (vWd (vKey G (a) (g)) wd), .ref aL, .int (nI ln), .int (nI ((vKey G (a) (g)).1)), .int (nI sp), .int (nI iw), .ref aT])), (aG, .inl (cI, 128, .inl (gN ((vKey G (a) (g)).2.2.2.2)))), (aB, .inl (cI, 128, .inl (gN G))), (aH, .inl (cI, 1024, .inl (gN Hi))), (aS, .inl (cI, 128, .inl (gN Sv))), (aI, .inl (cI, 60, .inl (gN In))), (aL, .inl (cC, 40, .inl (gN Le))), (aT, .inl (cI, 360, .inl To))] H := hP
  refine nv_kM (va_runV (As := [.int ((vKey G (a) (g)).2.2.2.1)]) (rest := []) ⟨hx, hb, hml, hown, hts⟩ (c_X7_kept l hD ((vKey G (a) (g)).2.2.2.1) (by omega) (Nat.lt_of_le_of_lt (vKey_n _ _ _) (by decide))) (cwV 1 hts gX7_key_X7_kept rfl rfl rfl (by decide +kernel) ⟨Nat.le_of_ble_eq_true rfl, Nat.le_of_ble_eq_true rfl⟩) (nv_pV hK hP (va_recv hK.1 hP (ci := 9) (q0 := 0) rfl rfl)) rfl rfl hl.1 rfl (lv_room (Nat.le_of_ble_eq_true rfl)) dX7_key_11 ⟨Nat.zero_le _, Nat.zero_le _⟩) hS (fun H locs hP hS => ?_)
  have hP : va_P D vwCl [(h, .inr (9, [.ref aG, .ref aB, .ref aH, .int (nI ((if (vKey G (a) (g)).1 = 0 then (if ch = 8 then 8 else ch + 1) else ch))), .ref aS, .int (nI hs), .ref aI, .int (nI ty), .int ea, .int ra, .int (nI (vWy (vKey G (a) (g)) wy)), .int (vWd (vKey G (a) (g)) wd), .ref aL, .int (nI ln), .int (nI ((vKey G (a) (g)).1)), .int (nI sp), .int (nI iw), .ref aT])), (aG, .inl (cI, 128, .inl (gN ((if (vKey G (a) (g)).1 = 0 then (vKey G (a) (g)).2.2.2.2 else G))))), (aB, .inl (cI, 128, .inl (gN G))), (aH, .inl (cI, 1024, .inl (gN ((if (vKey G (a) (g)).1 = 0 then hPush Hi G ch else Hi))))), (aS, .inl (cI, 128, .inl (gN Sv))), (aI, .inl (cI, 60, .inl (gN In))), (aL, .inl (cC, 40, .inl (gN Le))), (aT, .inl (cI, 360, .inl To))] H := hP
  exact nv_retM hq hx hb hr hlocks (nar_i _) (kv_v (fun q => (vKey_G q).2)) hS hP (by rw [kv_G (fun q => (vKey_G q).1)]) dX7_key_14

set_option maxHeartbeats 1000000 in
set_option maxRecDepth 100000 in
theorem c_X7_knock (l : Launch) {D : va_G} {cI cC : ClassId} {h aG aB aH aS aI aL aT : Nat} {G B Hi Sv In Le : Nat → Nat} {To : Nat → Int32} {ch hs ty wy ln th sp iw : Nat} {ea ra wd : Int32} {A : Nat → Prop} (hD : ∀ (G B Hi Sv In Le : Nat → Nat) (To : Nat → Int32) (fs : List Value), va_D A [(h, .inr (9, fs)), (aG, .inl (cI, 128, .inl (gN G))), (aB, .inl (cI, 128, .inl (gN B))), (aH, .inl (cI, 1024, .inl (gN Hi))), (aS, .inl (cI, 128, .inl (gN Sv))), (aI, .inl (cI, 60, .inl (gN In))), (aL, .inl (cC, 40, .inl (gN Le))), (aT, .inl (cI, 360, .inl To))]) {b : Nat} (hG : gWf b G) (d g : Int32) (z : Nat) (c : Int32) (hz : z ≤ 1) (hch : ch ≤ 8) : Met l yX7_knock wsX7_knock ({ frames := 3, cells := 0, slots := 0, locals := 70 }) (va_Pc [.ref h, .int d, .int g, .int (nI z), .int c] (sPre D [(cI, .int), (cC, .char)] [] (fun H => va_P D vwCl [(h, .inr (9, [.ref aG, .ref aB, .ref aH, .int (nI ch), .ref aS, .int (nI hs), .ref aI, .int (nI ty), .int ea, .int ra, .int (nI wy), .int wd, .ref aL, .int (nI ln), .int (nI th), .int (nI sp), .int (nI iw), .ref aT])), (aG, .inl (cI, 128, .inl (gN G))), (aB, .inl (cI, 128, .inl (gN B))), (aH, .inl (cI, 1024, .inl (gN Hi))), (aS, .inl (cI, 128, .inl (gN Sv))), (aI, .inl (cI, 60, .inl (gN In))), (aL, .inl (cC, 40, .inl (gN Le))), (aT, .inl (cI, 360, .inl To))] H))) (mQ D ((vKnock G d g z c).2.2.2.1) [(h, .inr (9, [.ref aG, .ref aB, .ref aH, .int (nI ((if (vKnock G d g z c).1 = 0 then (if ch = 8 then 8 else ch + 1) else ch))), .ref aS, .int (nI hs), .ref aI, .int (nI ty), .int ea, .int ra, .int (nI (vWy (vKnock G d g z c) wy)), .int (vWd (vKnock G d g z c) wd), .ref aL, .int (nI ln), .int (nI ((vKnock G d g z c).1)), .int (nI sp), .int (nI iw), .ref aT])), (aG, .inl (cI, 128, .inl (gN ((vKnock G d g z c).2.2.2.2)))), (aB, .inl (cI, 128, .inl (gN G))), (aH, .inl (cI, 1024, .inl (gN ((if (vKnock G d g z c).1 = 0 then hPush Hi G ch else Hi))))), (aS, .inl (cI, 128, .inl (gN Sv))), (aI, .inl (cI, 60, .inl (gN In))), (aL, .inl (cC, 40, .inl (gN Le))), (aT, .inl (cI, 360, .inl To))] A) 0 0 A := by
  refine nv_met (cc := cX7_knock) (maxL := 5) (ret := (some .int)) (by decide) rfl (Nat.le_of_ble_eq_true rfl) ?_
  intro p0 e0 s m0 args below meth c0 Q hq hargs hnA hpre ls hl
  obtain ⟨hx, hb, hr, hts, hown, hlocks, hml⟩ := hnA
  obtain ⟨hP, hK⟩ := hpre
  have hown : s.vm.findClass RX7 = some m0.cls := hown
  have hP : va_P D vwCl [(h, .inr (9, [.ref aG, .ref aB, .ref aH, .int (nI ch), .ref aS, .int (nI hs), .ref aI, .int (nI ty), .int ea, .int ra, .int (nI wy), .int wd, .ref aL, .int (nI ln), .int (nI th), .int (nI sp), .int (nI iw), .ref aT])), (aG, .inl (cI, 128, .inl (gN G))), (aB, .inl (cI, 128, .inl (gN B))), (aH, .inl (cI, 1024, .inl (gN Hi))), (aS, .inl (cI, 128, .inl (gN Sv))), (aI, .inl (cI, 60, .inl (gN In))), (aL, .inl (cC, 40, .inl (gN Le))), (aT, .inl (cI, 360, .inl To))] s.heap := hP
  have hl : lv_has ls 5 [(0, .ref h), (1, .int d), (2, .int g), (3, .int (nI z)), (4, .int c)] := hl
  have hS : va_S A s.heap s.heap [] := va_S.rf
  obtain ⟨g_b, g_k, g_0, g_1, g_2, g_e, g_d, g_t, g_y, g_s, g_h⟩ := id hG
  refine lv_aload_n hx hb dX7_knock_0 rfl (lv_at hl 0 rfl) ?_
  refine nv_kMv (va_runV (As := []) (rest := []) ⟨hx, hb, hml, hown, hts⟩ (c_X7_looksBack l hD) (cwV 0 hts gX7_knock_X7_looksBack rfl rfl rfl (by decide +kernel) ⟨Nat.le_of_ble_eq_true rfl, Nat.le_of_ble_eq_true rfl⟩) (nv_pV hK hP (va_recv hK.1 hP (ci := 9) (q0 := 0) rfl rfl)) rfl rfl hl.1 rfl (lv_room (Nat.le_of_ble_eq_true rfl)) dX7_knock_1 ⟨Nat.zero_le _, Nat.zero_le _⟩) hS (fun H locs hP hS => ?_)
  have hP : va_P D vwCl [(h, .inr (9, [.ref aG, .ref aB, .ref aH, .int (nI ch), .ref aS, .int (nI hs), .ref aI, .int (nI ty), .int ea, .int ra, .int (nI wy), .int wd, .ref aL, .int (nI ln), .int (nI th), .int (nI sp), .int (nI iw), .ref aT])), (aG, .inl (cI, 128, .inl (gN G))), (aB, .inl (cI, 128, .inl (gN G))), (aH, .inl (cI, 1024, .inl (gN Hi))), (aS, .inl (cI, 128, .inl (gN Sv))), (aI, .inl (cI, 60, .inl (gN In))), (aL, .inl (cC, 40, .inl (gN Le))), (aT, .inl (cI, 360, .inl To))] H := hP
  refine lv_aload_n hx hb dX7_knock_4 rfl (lv_at hl 0 rfl) ?_
  refine lv_aload_n hx hb dX7_knock_5 rfl (lv_at hl 0 rfl) ?_
  refine lv_iload_n hx hb dX7_knock_6 rfl (lv_at hl 1 rfl) ?_
  refine lv_iload_n hx hb dX7_knock_7 rfl (lv_at hl 2 rfl) ?_
  refine lv_iload_n hx hb dX7_knock_8 rfl (lv_at hl 3 rfl) ?_
  refine nv_jn (α := Nat) (fun r => W p0 l e0 ({ frames := 3, cells := 0, slots := 0, locals := 70 }) s m0 args below meth c0 H locs 0 0 Q (F0 m0 17 ls (.int (nI r) :: [.int g, .int d, .ref h, .ref h]))) ((if z = 0 then 0 else 1)) (fun r er => ?_) (fun hJ => ?_)
  · subst er
    refine nv_to z (nv_z01 hz) ?_
    refine lv_iload hx hb dX7_knock_17 (lv_at hl 4 rfl) ?_
    refine nv_kM (va_runV (As := [.int d, .int g, .int (nI z), .int c]) (rest := [.ref h]) ⟨hx, hb, hml, hown, hts⟩ (c_X7_knocks l hD hG (d) (g) z (c) (by first | exact bI_le _ | omega)) (cwV 4 hts gX7_knock_X7_knocks rfl rfl rfl (by decide +kernel) ⟨Nat.le_of_ble_eq_true rfl, Nat.le_of_ble_eq_true rfl⟩) (nv_pV hK hP (va_recv hK.1 hP (ci := 9) (q0 := 0) rfl rfl)) rfl rfl hl.1 rfl (lv_room (Nat.le_of_ble_eq_true rfl)) dX7_knock_19 ⟨Nat.zero_le _, Nat.zero_le _⟩) hS (fun H locs hP hS => ?_)
    have hP : va_P D vwCl [(h, .inr (9, [.ref aG, .ref aB, .ref aH, .int (nI ch), .ref aS, .int (nI hs), .ref aI, .int (nI ty), .int ea, .int ra, .int (nI (vWy (vKnock G (d) (g) z (c)) wy)), .int (vWd (vKnock G (d) (g) z (c)) wd), .ref aL, .int (nI ln), .int (nI ((vKnock G (d) (g) z (c)).1)), .int (nI sp), .int (nI iw), .ref aT])), (aG, .inl (cI, 128, .inl (gN ((vKnock G (d) (g) z (c)).2.2.2.2)))), (aB, .inl (cI, 128, .inl (gN G))), (aH, .inl (cI, 1024, .inl (gN Hi))), (aS, .inl (cI, 128, .inl (gN Sv))), (aI, .inl (cI, 60, .inl (gN In))), (aL, .inl (cC, 40, .inl (gN Le))), (aT, .inl (cI, 360, .inl To))] H := hP
    refine nv_kM (va_runV (As := [.int ((vKnock G (d) (g) z (c)).2.2.2.1)]) (rest := []) ⟨hx, hb, hml, hown, hts⟩ (c_X7_kept l hD ((vKnock G (d) (g) z (c)).2.2.2.1) (by omega) (Nat.lt_of_le_of_lt (vKnock_n _ _ _ _ _) (by decide))) (cwV 1 hts gX7_knock_X7_kept rfl rfl rfl (by decide +kernel) ⟨Nat.le_of_ble_eq_true rfl, Nat.le_of_ble_eq_true rfl⟩) (nv_pV hK hP (va_recv hK.1 hP (ci := 9) (q0 := 0) rfl rfl)) rfl rfl hl.1 rfl (lv_room (Nat.le_of_ble_eq_true rfl)) dX7_knock_22 ⟨Nat.zero_le _, Nat.zero_le _⟩) hS (fun H locs hP hS => ?_)
    have hP : va_P D vwCl [(h, .inr (9, [.ref aG, .ref aB, .ref aH, .int (nI ((if (vKnock G (d) (g) z (c)).1 = 0 then (if ch = 8 then 8 else ch + 1) else ch))), .ref aS, .int (nI hs), .ref aI, .int (nI ty), .int ea, .int ra, .int (nI (vWy (vKnock G (d) (g) z (c)) wy)), .int (vWd (vKnock G (d) (g) z (c)) wd), .ref aL, .int (nI ln), .int (nI ((vKnock G (d) (g) z (c)).1)), .int (nI sp), .int (nI iw), .ref aT])), (aG, .inl (cI, 128, .inl (gN ((if (vKnock G (d) (g) z (c)).1 = 0 then (vKnock G (d) (g) z (c)).2.2.2.2 else G))))), (aB, .inl (cI, 128, .inl (gN G))), (aH, .inl (cI, 1024, .inl (gN ((if (vKnock G (d) (g) z (c)).1 = 0 then hPush Hi G ch else Hi))))), (aS, .inl (cI, 128, .inl (gN Sv))), (aI, .inl (cI, 60, .inl (gN In))), (aL, .inl (cC, 40, .inl (gN Le))), (aT, .inl (cI, 360, .inl To))] H := hP
    exact nv_retM hq hx hb hr hlocks (nar_i _) (kv_v (fun q => (vKnock_G q).2)) hS hP (by rw [kv_G (fun q => (vKnock_G q).1)]) dX7_knock_25
  · refine nv_if_eq (tgt := 16) hx hb dX7_knock_9 (by decide) (by omega) (fun c1 => ?_) (fun c1 => ?_)
    · refine lv_iconst (v := nI 0) hx hb dX7_knock_16 (by decide) ?_
      exact hJ _ (if_pos c1).symm
    · refine lv_iconst (v := nI 1) hx hb dX7_knock_12 (by decide) ?_
      refine lv_goto (tgt := 17) hx hb dX7_knock_13 (by decide) ?_
      exact hJ _ (if_neg c1).symm

set_option maxHeartbeats 1000000 in
set_option maxRecDepth 100000 in
theorem c_X7_shut (l : Launch) {D : va_G} {cI cC : ClassId} {h aG aB aH aS aI aL aT : Nat} {G B Hi Sv In Le : Nat → Nat} {To : Nat → Int32} {ch hs ty wy ln th sp iw : Nat} {ea ra wd : Int32} {A : Nat → Prop} (hD : ∀ (G B Hi Sv In Le : Nat → Nat) (To : Nat → Int32) (fs : List Value), va_D A [(h, .inr (9, fs)), (aG, .inl (cI, 128, .inl (gN G))), (aB, .inl (cI, 128, .inl (gN B))), (aH, .inl (cI, 1024, .inl (gN Hi))), (aS, .inl (cI, 128, .inl (gN Sv))), (aI, .inl (cI, 60, .inl (gN In))), (aL, .inl (cC, 40, .inl (gN Le))), (aT, .inl (cI, 360, .inl To))]) {b : Nat} (hG : gWf b G) (d : Int32) (hch : ch ≤ 8) : Met l yX7_shut wsX7_shut ({ frames := 3, cells := 0, slots := 0, locals := 65 }) (va_Pc [.ref h, .int d] (sPre D [(cI, .int), (cC, .char)] [] (fun H => va_P D vwCl [(h, .inr (9, [.ref aG, .ref aB, .ref aH, .int (nI ch), .ref aS, .int (nI hs), .ref aI, .int (nI ty), .int ea, .int ra, .int (nI wy), .int wd, .ref aL, .int (nI ln), .int (nI th), .int (nI sp), .int (nI iw), .ref aT])), (aG, .inl (cI, 128, .inl (gN G))), (aB, .inl (cI, 128, .inl (gN B))), (aH, .inl (cI, 1024, .inl (gN Hi))), (aS, .inl (cI, 128, .inl (gN Sv))), (aI, .inl (cI, 60, .inl (gN In))), (aL, .inl (cC, 40, .inl (gN Le))), (aT, .inl (cI, 360, .inl To))] H))) (mQ D ((vShut G d).2.2.2.1) [(h, .inr (9, [.ref aG, .ref aB, .ref aH, .int (nI ((if (vShut G d).1 = 0 then (if ch = 8 then 8 else ch + 1) else ch))), .ref aS, .int (nI hs), .ref aI, .int (nI ty), .int ea, .int ra, .int (nI (vWy (vShut G d) wy)), .int (vWd (vShut G d) wd), .ref aL, .int (nI ln), .int (nI ((vShut G d).1)), .int (nI sp), .int (nI iw), .ref aT])), (aG, .inl (cI, 128, .inl (gN ((vShut G d).2.2.2.2)))), (aB, .inl (cI, 128, .inl (gN G))), (aH, .inl (cI, 1024, .inl (gN ((if (vShut G d).1 = 0 then hPush Hi G ch else Hi))))), (aS, .inl (cI, 128, .inl (gN Sv))), (aI, .inl (cI, 60, .inl (gN In))), (aL, .inl (cC, 40, .inl (gN Le))), (aT, .inl (cI, 360, .inl To))] A) 0 0 A := by
  refine nv_met (cc := cX7_shut) (maxL := 2) (ret := (some .int)) (by decide) rfl (Nat.le_of_ble_eq_true rfl) ?_
  intro p0 e0 s m0 args below meth c0 Q hq hargs hnA hpre ls hl
  obtain ⟨hx, hb, hr, hts, hown, hlocks, hml⟩ := hnA
  obtain ⟨hP, hK⟩ := hpre
  have hown : s.vm.findClass RX7 = some m0.cls := hown
  have hP : va_P D vwCl [(h, .inr (9, [.ref aG, .ref aB, .ref aH, .int (nI ch), .ref aS, .int (nI hs), .ref aI, .int (nI ty), .int ea, .int ra, .int (nI wy), .int wd, .ref aL, .int (nI ln), .int (nI th), .int (nI sp), .int (nI iw), .ref aT])), (aG, .inl (cI, 128, .inl (gN G))), (aB, .inl (cI, 128, .inl (gN B))), (aH, .inl (cI, 1024, .inl (gN Hi))), (aS, .inl (cI, 128, .inl (gN Sv))), (aI, .inl (cI, 60, .inl (gN In))), (aL, .inl (cC, 40, .inl (gN Le))), (aT, .inl (cI, 360, .inl To))] s.heap := hP
  have hl : lv_has ls 2 [(0, .ref h), (1, .int d)] := hl
  have hS : va_S A s.heap s.heap [] := va_S.rf
  obtain ⟨g_b, g_k, g_0, g_1, g_2, g_e, g_d, g_t, g_y, g_s, g_h⟩ := id hG
  refine lv_aload_n hx hb dX7_shut_0 rfl (lv_at hl 0 rfl) ?_
  refine nv_kMv (va_runV (As := []) (rest := []) ⟨hx, hb, hml, hown, hts⟩ (c_X7_looksBack l hD) (cwV 0 hts gX7_shut_X7_looksBack rfl rfl rfl (by decide +kernel) ⟨Nat.le_of_ble_eq_true rfl, Nat.le_of_ble_eq_true rfl⟩) (nv_pV hK hP (va_recv hK.1 hP (ci := 9) (q0 := 0) rfl rfl)) rfl rfl hl.1 rfl (lv_room (Nat.le_of_ble_eq_true rfl)) dX7_shut_1 ⟨Nat.zero_le _, Nat.zero_le _⟩) hS (fun H locs hP hS => ?_)
  have hP : va_P D vwCl [(h, .inr (9, [.ref aG, .ref aB, .ref aH, .int (nI ch), .ref aS, .int (nI hs), .ref aI, .int (nI ty), .int ea, .int ra, .int (nI wy), .int wd, .ref aL, .int (nI ln), .int (nI th), .int (nI sp), .int (nI iw), .ref aT])), (aG, .inl (cI, 128, .inl (gN G))), (aB, .inl (cI, 128, .inl (gN G))), (aH, .inl (cI, 1024, .inl (gN Hi))), (aS, .inl (cI, 128, .inl (gN Sv))), (aI, .inl (cI, 60, .inl (gN In))), (aL, .inl (cC, 40, .inl (gN Le))), (aT, .inl (cI, 360, .inl To))] H := hP
  refine lv_aload_n hx hb dX7_shut_4 rfl (lv_at hl 0 rfl) ?_
  refine lv_aload_n hx hb dX7_shut_5 rfl (lv_at hl 0 rfl) ?_
  refine lv_iload_n hx hb dX7_shut_6 rfl (lv_at hl 1 rfl) ?_
  refine nv_kM (va_runV (As := [.int d]) (rest := [.ref h]) ⟨hx, hb, hml, hown, hts⟩ (c_X7_shuts l hD hG (d)) (cwV 1 hts gX7_shut_X7_shuts rfl rfl rfl (by decide +kernel) ⟨Nat.le_of_ble_eq_true rfl, Nat.le_of_ble_eq_true rfl⟩) (nv_pV hK hP (va_recv hK.1 hP (ci := 9) (q0 := 0) rfl rfl)) rfl rfl hl.1 rfl (lv_room (Nat.le_of_ble_eq_true rfl)) dX7_shut_7 ⟨Nat.zero_le _, Nat.zero_le _⟩) hS (fun H locs hP hS => ?_)
  have hP : va_P D vwCl [(h, .inr (9, [.ref aG, .ref aB, .ref aH, .int (nI ch), .ref aS, .int (nI hs), .ref aI, .int (nI ty), .int ea, .int ra, .int (nI (vWy (vShut G (d)) wy)), .int (vWd (vShut G (d)) wd), .ref aL, .int (nI ln), .int (nI ((vShut G (d)).1)), .int (nI sp), .int (nI iw), .ref aT])), (aG, .inl (cI, 128, .inl (gN ((vShut G (d)).2.2.2.2)))), (aB, .inl (cI, 128, .inl (gN G))), (aH, .inl (cI, 1024, .inl (gN Hi))), (aS, .inl (cI, 128, .inl (gN Sv))), (aI, .inl (cI, 60, .inl (gN In))), (aL, .inl (cC, 40, .inl (gN Le))), (aT, .inl (cI, 360, .inl To))] H := hP
  refine nv_kM (va_runV (As := [.int ((vShut G (d)).2.2.2.1)]) (rest := []) ⟨hx, hb, hml, hown, hts⟩ (c_X7_kept l hD ((vShut G (d)).2.2.2.1) (by omega) (Nat.lt_of_le_of_lt (vShut_n _ _) (by decide))) (cwV 1 hts gX7_shut_X7_kept rfl rfl rfl (by decide +kernel) ⟨Nat.le_of_ble_eq_true rfl, Nat.le_of_ble_eq_true rfl⟩) (nv_pV hK hP (va_recv hK.1 hP (ci := 9) (q0 := 0) rfl rfl)) rfl rfl hl.1 rfl (lv_room (Nat.le_of_ble_eq_true rfl)) dX7_shut_10 ⟨Nat.zero_le _, Nat.zero_le _⟩) hS (fun H locs hP hS => ?_)
  have hP : va_P D vwCl [(h, .inr (9, [.ref aG, .ref aB, .ref aH, .int (nI ((if (vShut G (d)).1 = 0 then (if ch = 8 then 8 else ch + 1) else ch))), .ref aS, .int (nI hs), .ref aI, .int (nI ty), .int ea, .int ra, .int (nI (vWy (vShut G (d)) wy)), .int (vWd (vShut G (d)) wd), .ref aL, .int (nI ln), .int (nI ((vShut G (d)).1)), .int (nI sp), .int (nI iw), .ref aT])), (aG, .inl (cI, 128, .inl (gN ((if (vShut G (d)).1 = 0 then (vShut G (d)).2.2.2.2 else G))))), (aB, .inl (cI, 128, .inl (gN G))), (aH, .inl (cI, 1024, .inl (gN ((if (vShut G (d)).1 = 0 then hPush Hi G ch else Hi))))), (aS, .inl (cI, 128, .inl (gN Sv))), (aI, .inl (cI, 60, .inl (gN In))), (aL, .inl (cC, 40, .inl (gN Le))), (aT, .inl (cI, 360, .inl To))] H := hP
  exact nv_retM hq hx hb hr hlocks (nar_i _) (kv_v (fun q => (vShut_G q).2)) hS hP (by rw [kv_G (fun q => (vShut_G q).1)]) dX7_shut_13

set_option maxHeartbeats 1000000 in
set_option maxRecDepth 100000 in
theorem c_X7_free (l : Launch) {D : va_G} {cI cC : ClassId} {h aG aB aH aS aI aL aT : Nat} {G B Hi Sv In Le : Nat → Nat} {To : Nat → Int32} {ch hs ty wy ln th sp iw : Nat} {ea ra wd : Int32} {A : Nat → Prop} (hD : ∀ (G B Hi Sv In Le : Nat → Nat) (To : Nat → Int32) (fs : List Value), va_D A [(h, .inr (9, fs)), (aG, .inl (cI, 128, .inl (gN G))), (aB, .inl (cI, 128, .inl (gN B))), (aH, .inl (cI, 1024, .inl (gN Hi))), (aS, .inl (cI, 128, .inl (gN Sv))), (aI, .inl (cI, 60, .inl (gN In))), (aL, .inl (cC, 40, .inl (gN Le))), (aT, .inl (cI, 360, .inl To))]) {b : Nat} (hG : gWf b G) (k d : Int32) (hch : ch ≤ 8) : Met l yX7_free wsX7_free ({ frames := 3, cells := 0, slots := 0, locals := 67 }) (va_Pc [.ref h, .int k, .int d] (sPre D [(cI, .int), (cC, .char)] [] (fun H => va_P D vwCl [(h, .inr (9, [.ref aG, .ref aB, .ref aH, .int (nI ch), .ref aS, .int (nI hs), .ref aI, .int (nI ty), .int ea, .int ra, .int (nI wy), .int wd, .ref aL, .int (nI ln), .int (nI th), .int (nI sp), .int (nI iw), .ref aT])), (aG, .inl (cI, 128, .inl (gN G))), (aB, .inl (cI, 128, .inl (gN B))), (aH, .inl (cI, 1024, .inl (gN Hi))), (aS, .inl (cI, 128, .inl (gN Sv))), (aI, .inl (cI, 60, .inl (gN In))), (aL, .inl (cC, 40, .inl (gN Le))), (aT, .inl (cI, 360, .inl To))] H))) (mQ D ((vFree G k d).2.2.2.1) [(h, .inr (9, [.ref aG, .ref aB, .ref aH, .int (nI ((if (vFree G k d).1 = 0 then (if ch = 8 then 8 else ch + 1) else ch))), .ref aS, .int (nI hs), .ref aI, .int (nI ty), .int ea, .int ra, .int (nI (vWy (vFree G k d) wy)), .int (vWd (vFree G k d) wd), .ref aL, .int (nI ln), .int (nI ((vFree G k d).1)), .int (nI sp), .int (nI iw), .ref aT])), (aG, .inl (cI, 128, .inl (gN ((vFree G k d).2.2.2.2)))), (aB, .inl (cI, 128, .inl (gN G))), (aH, .inl (cI, 1024, .inl (gN ((if (vFree G k d).1 = 0 then hPush Hi G ch else Hi))))), (aS, .inl (cI, 128, .inl (gN Sv))), (aI, .inl (cI, 60, .inl (gN In))), (aL, .inl (cC, 40, .inl (gN Le))), (aT, .inl (cI, 360, .inl To))] A) 0 0 A := by
  refine nv_met (cc := cX7_free) (maxL := 3) (ret := (some .int)) (by decide) rfl (Nat.le_of_ble_eq_true rfl) ?_
  intro p0 e0 s m0 args below meth c0 Q hq hargs hnA hpre ls hl
  obtain ⟨hx, hb, hr, hts, hown, hlocks, hml⟩ := hnA
  obtain ⟨hP, hK⟩ := hpre
  have hown : s.vm.findClass RX7 = some m0.cls := hown
  have hP : va_P D vwCl [(h, .inr (9, [.ref aG, .ref aB, .ref aH, .int (nI ch), .ref aS, .int (nI hs), .ref aI, .int (nI ty), .int ea, .int ra, .int (nI wy), .int wd, .ref aL, .int (nI ln), .int (nI th), .int (nI sp), .int (nI iw), .ref aT])), (aG, .inl (cI, 128, .inl (gN G))), (aB, .inl (cI, 128, .inl (gN B))), (aH, .inl (cI, 1024, .inl (gN Hi))), (aS, .inl (cI, 128, .inl (gN Sv))), (aI, .inl (cI, 60, .inl (gN In))), (aL, .inl (cC, 40, .inl (gN Le))), (aT, .inl (cI, 360, .inl To))] s.heap := hP
  have hl : lv_has ls 3 [(0, .ref h), (1, .int k), (2, .int d)] := hl
  have hS : va_S A s.heap s.heap [] := va_S.rf
  obtain ⟨g_b, g_k, g_0, g_1, g_2, g_e, g_d, g_t, g_y, g_s, g_h⟩ := id hG
  refine lv_aload_n hx hb dX7_free_0 rfl (lv_at hl 0 rfl) ?_
  refine nv_kMv (va_runV (As := []) (rest := []) ⟨hx, hb, hml, hown, hts⟩ (c_X7_looksBack l hD) (cwV 0 hts gX7_free_X7_looksBack rfl rfl rfl (by decide +kernel) ⟨Nat.le_of_ble_eq_true rfl, Nat.le_of_ble_eq_true rfl⟩) (nv_pV hK hP (va_recv hK.1 hP (ci := 9) (q0 := 0) rfl rfl)) rfl rfl hl.1 rfl (lv_room (Nat.le_of_ble_eq_true rfl)) dX7_free_1 ⟨Nat.zero_le _, Nat.zero_le _⟩) hS (fun H locs hP hS => ?_)
  have hP : va_P D vwCl [(h, .inr (9, [.ref aG, .ref aB, .ref aH, .int (nI ch), .ref aS, .int (nI hs), .ref aI, .int (nI ty), .int ea, .int ra, .int (nI wy), .int wd, .ref aL, .int (nI ln), .int (nI th), .int (nI sp), .int (nI iw), .ref aT])), (aG, .inl (cI, 128, .inl (gN G))), (aB, .inl (cI, 128, .inl (gN G))), (aH, .inl (cI, 1024, .inl (gN Hi))), (aS, .inl (cI, 128, .inl (gN Sv))), (aI, .inl (cI, 60, .inl (gN In))), (aL, .inl (cC, 40, .inl (gN Le))), (aT, .inl (cI, 360, .inl To))] H := hP
  refine lv_aload_n hx hb dX7_free_4 rfl (lv_at hl 0 rfl) ?_
  refine lv_aload_n hx hb dX7_free_5 rfl (lv_at hl 0 rfl) ?_
  refine lv_iload_n hx hb dX7_free_6 rfl (lv_at hl 1 rfl) ?_
  refine lv_iload_n hx hb dX7_free_7 rfl (lv_at hl 2 rfl) ?_
  refine nv_kM (va_runV (As := [.int k, .int d]) (rest := [.ref h]) ⟨hx, hb, hml, hown, hts⟩ (c_X7_frees l hD hG (k) (d)) (cwV 2 hts gX7_free_X7_frees rfl rfl rfl (by decide +kernel) ⟨Nat.le_of_ble_eq_true rfl, Nat.le_of_ble_eq_true rfl⟩) (nv_pV hK hP (va_recv hK.1 hP (ci := 9) (q0 := 0) rfl rfl)) rfl rfl hl.1 rfl (lv_room (Nat.le_of_ble_eq_true rfl)) dX7_free_8 ⟨Nat.zero_le _, Nat.zero_le _⟩) hS (fun H locs hP hS => ?_)
  have hP : va_P D vwCl [(h, .inr (9, [.ref aG, .ref aB, .ref aH, .int (nI ch), .ref aS, .int (nI hs), .ref aI, .int (nI ty), .int ea, .int ra, .int (nI (vWy (vFree G (k) (d)) wy)), .int (vWd (vFree G (k) (d)) wd), .ref aL, .int (nI ln), .int (nI ((vFree G (k) (d)).1)), .int (nI sp), .int (nI iw), .ref aT])), (aG, .inl (cI, 128, .inl (gN ((vFree G (k) (d)).2.2.2.2)))), (aB, .inl (cI, 128, .inl (gN G))), (aH, .inl (cI, 1024, .inl (gN Hi))), (aS, .inl (cI, 128, .inl (gN Sv))), (aI, .inl (cI, 60, .inl (gN In))), (aL, .inl (cC, 40, .inl (gN Le))), (aT, .inl (cI, 360, .inl To))] H := hP
  refine nv_kM (va_runV (As := [.int ((vFree G (k) (d)).2.2.2.1)]) (rest := []) ⟨hx, hb, hml, hown, hts⟩ (c_X7_kept l hD ((vFree G (k) (d)).2.2.2.1) (by omega) (Nat.lt_of_le_of_lt (vFree_n _ _ _) (by decide))) (cwV 1 hts gX7_free_X7_kept rfl rfl rfl (by decide +kernel) ⟨Nat.le_of_ble_eq_true rfl, Nat.le_of_ble_eq_true rfl⟩) (nv_pV hK hP (va_recv hK.1 hP (ci := 9) (q0 := 0) rfl rfl)) rfl rfl hl.1 rfl (lv_room (Nat.le_of_ble_eq_true rfl)) dX7_free_11 ⟨Nat.zero_le _, Nat.zero_le _⟩) hS (fun H locs hP hS => ?_)
  have hP : va_P D vwCl [(h, .inr (9, [.ref aG, .ref aB, .ref aH, .int (nI ((if (vFree G (k) (d)).1 = 0 then (if ch = 8 then 8 else ch + 1) else ch))), .ref aS, .int (nI hs), .ref aI, .int (nI ty), .int ea, .int ra, .int (nI (vWy (vFree G (k) (d)) wy)), .int (vWd (vFree G (k) (d)) wd), .ref aL, .int (nI ln), .int (nI ((vFree G (k) (d)).1)), .int (nI sp), .int (nI iw), .ref aT])), (aG, .inl (cI, 128, .inl (gN ((if (vFree G (k) (d)).1 = 0 then (vFree G (k) (d)).2.2.2.2 else G))))), (aB, .inl (cI, 128, .inl (gN G))), (aH, .inl (cI, 1024, .inl (gN ((if (vFree G (k) (d)).1 = 0 then hPush Hi G ch else Hi))))), (aS, .inl (cI, 128, .inl (gN Sv))), (aI, .inl (cI, 60, .inl (gN In))), (aL, .inl (cC, 40, .inl (gN Le))), (aT, .inl (cI, 360, .inl To))] H := hP
  exact nv_retM hq hx hb hr hlocks (nar_i _) (kv_v (fun q => (vFree_G q).2)) hS hP (by rw [kv_G (fun q => (vFree_G q).1)]) dX7_free_14
