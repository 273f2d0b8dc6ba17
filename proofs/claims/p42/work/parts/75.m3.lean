/-! what state answers: a number out of all that is told of a house -/
def fo (f : Nat → Int32) (v : Int32) : Nat → Int32
  | 0 => v
  | n + 1 => nI 31 * fo f v n + f n
def foD (G : Nat → Nat) (v : Int32) : Nat → Int32
  | 0 => v
  | d + 1 => fo (qDoor G d) (foD G v d) 11
def fA (G : Nat → Nat) (j : Nat) : Int32 := nI (qAcc G 0 0 j)
def fT (G : Nat → Nat) (t : Nat) : Int32 := nI (G (112 + t))
def fK (G : Nat → Nat) (d : Nat) : Int32 := nI (gKeys G d)
def fE (G : Nat → Nat) (k : Nat) : Int32 := nI (97 + G (gEndAt (k / 8) (k / 2 % 4) (k % 2)))
def s1F (G : Nat → Nat) : Int32 := fo (fA G) (nI 0) 11
def s2F (G : Nat → Nat) : Int32 := foD G (s1F G) (G 0)
def s3F (G : Nat → Nat) : Int32 := fo (fT G) (s2F G) (G 1)
def s4F (G : Nat → Nat) : Int32 := fo (fK G) (s3F G) (G 0)
def stF (G : Nat → Nat) : Int32 := fo (fE G) (s4F G) 24
theorem qAcc_G {G : Nat → Nat} {ty ch : Nat} : ∀ {j : Nat}, j < 11 → qAcc G ty ch j = qAcc G 0 0 j
  | 0, _ => rfl | 1, _ => rfl | 2, _ => rfl | 3, _ => rfl | 4, _ => rfl | 5, _ => rfl | 6, _ => rfl | 7, _ => rfl | 8, _ => rfl | 9, _ => rfl | 10, _ => rfl
  | j + 11, h => absurd h (by omega)
theorem dv8 : ∀ k, k < 24 → nI k / nI 8 = nI (k / 8) := by decide +kernel
theorem dv2 : ∀ k, k < 24 → nI k / nI 2 = nI (k / 2) := by decide +kernel
theorem dv1 : ∀ k, k < 24 → nI (bI (nI (k % 2) = nI 1)) = nI (k % 2) := by decide +kernel
set_option maxHeartbeats 1000000 in
set_option maxRecDepth 100000 in
theorem c_L_state (l : Launch) (hl9 : l.stackTraces = false) {D : va_G} {cI cC cD cR cB : ClassId} {sa : sA} {AD : Nat → Nat} {G Sv Hi In Le : Nat → Nat} {hs ch ty wy ln k : Nat} {ea ra wd : Int32} (hI : cInj AD) (hF : lF k G Sv Hi In Le hs ch ty wy ln) : vx_Met l yL_state wsL_state ({ frames := 8, cells := 250, slots := 1500, locals := 126 }) (va_Pc [.ref (AD 0)] (lPre D [(cI, .int), (cC, .char), (cD, .object "DoorDialect$Door"), (cR, .object "DoorDialect$House")] nN sa (cRg AD 0 165) cB (cW D cI cC cD cR AD G Sv Hi In Le hs ch ty wy ln ea ra wd) [])) (gQ (stF G) (cW D cI cC cD cR AD G Sv Hi In Le hs ch ty wy ln ea ra wd) (cRg AD 0 165)) noX 250 1500 (cRg AD 0 165) := by
  refine nv_metX (cc := cL_state) (maxL := 4) (ret := (some .int)) (by decide) rfl (Nat.le_of_ble_eq_true rfl) ?_
  intro p0 e0 s m0 args below meth c0 Q hq hargs hnA hout hpre ls hl
  obtain ⟨hx, hb, hr, hts, hown, hlocks, hml⟩ := hnA
  obtain ⟨hP, hT, hX, htl⟩ := hpre
  have hown : s.vm.findClass RL = some m0.cls := hown
  have hl : lv_has ls 4 [(0, .ref (AD 0))] := hl
  have hS : va_S (cRg AD 0 165) s.heap s.heap [] := va_S.rf
  obtain ⟨bb, hG, h25, hbk, hk5, hch, hHb, hhs, hSvb, hty, hIn7, hln, hLe, hwy⟩ := id hF
  have hHw : ∀ j, j < ch → hAt Hi j 0 ≤ 8 ∧ hAt Hi j 1 ≤ 6 ∧ hAt Hi j 2 ≤ 5 := fun j hj => ⟨(hHb j hj).2.2.1, (hHb j hj).2.2.2.1, (hHb j hj).2.2.2.2.1⟩
  have hbb : bb + 1 < 2 ^ 20 := by omega
  have hb32 : bb + 32 < 2 ^ 20 := by omega
  have g0 : G 0 ≤ 8 := hG.2.2.1
  have g1 : G 1 ≤ 6 := hG.2.2.2.1
  refine lv_iconst (v := nI 0) hx hb dL_state_0 (by decide) ?_
  refine lv_istore_n (lv' := [(1, .int (nI 0)), (0, .ref (AD 0))]) hx hb dL_state_1 rfl hl (by decide) rfl (fun ls hl => ?_)
  refine lv_iconst (v := nI 0) hx hb dL_state_2 (by decide) ?_
  refine lv_istore_n (lv' := [(2, .int (nI 0)), (1, .int (nI 0)), (0, .ref (AD 0))]) hx hb dL_state_3 rfl hl (by decide) rfl (fun ls hl => ?_)
  have h5 : ∀ (n j : Nat), j + n = 24 → ∀ (H : Heap) (locs : List Loc) (ls : Array Slot), (cW D cI cC cD cR AD G Sv Hi In Le hs ch ty wy ln ea ra wd) H → va_S (cRg AD 0 165) s.heap H locs → lv_has ls 4 [(2, .int (nI j)), (1, .int (fo (fE G) (s4F G) j)), (0, .ref (AD 0))] → W p0 l e0 ({ frames := 8, cells := 250, slots := 1500, locals := 126 }) s m0 args below meth c0 H locs (226 + j) (1356 + 6 * j) Q (F0 m0 129 ls []) := by
    intro n
    induction n with
    | zero =>
      intro j hj H locs ls hP hS hl
      refine lv_iload_n hx hb dL_state_129 rfl (lv_at hl 0 rfl) ?_
      refine lv_bipush (v := nI 24) hx hb dL_state_130 (by decide) ?_
      refine nv_icmp_ge (tgt := 172) hx hb dL_state_132 (by decide) (by omega) (by omega) (fun c1 => ?_) (fun c1 => absurd (show 24 ≤ j by omega) c1)
      have e9 : j = 24 := by omega
      subst e9
      refine lv_iload_n hx hb dL_state_172 rfl (lv_at hl 1 rfl) ?_
      exact nv_retLz hq hx hb hr hlocks (by decide) (by decide) (nar_i _) rfl hS hP dL_state_173
    | succ n ih =>
      intro j hj H locs ls hP hS hl
      refine lv_iload_n hx hb dL_state_129 rfl (lv_at hl 0 rfl) ?_
      refine lv_bipush (v := nI 24) hx hb dL_state_130 (by decide) ?_
      refine nv_icmp_ge (tgt := 172) hx hb dL_state_132 (by decide) (by omega) (by omega) (fun c1 => absurd c1 (by omega)) (fun c1 => ?_)
      have h24 : j < 24 := by omega
      refine lv_bipush (v := nI 31) hx hb dL_state_135 (by decide) ?_
      refine lv_iload_n hx hb dL_state_137 rfl (lv_at hl 1 rfl) ?_
      refine lv_imul hx hb dL_state_138 ?_
      refine lv_aload_n hx hb dL_state_139 rfl (lv_at hl 2 rfl) ?_
      refine lv_iload_n hx hb dL_state_140 rfl (lv_at hl 0 rfl) ?_
      refine lv_bipush (v := nI 8) hx hb dL_state_141 (by decide) ?_
      refine lv_idiv hx hb dL_state_143 (by decide) ?_
      refine nv_to (j / 8) (dv8 j h24) ?_
      refine lv_iload_n hx hb dL_state_144 rfl (lv_at hl 0 rfl) ?_
      refine lv_iconst (v := nI 2) hx hb dL_state_145 (by decide) ?_
      refine lv_idiv hx hb dL_state_146 (by decide) ?_
      refine nv_to (j / 2) (dv2 j h24) ?_
      refine lv_iconst (v := nI 4) hx hb dL_state_147 (by decide) ?_
      refine nv_irem hx hb dL_state_148 (by omega) (by decide) (by decide) ?_
      refine lv_iload_n hx hb dL_state_149 rfl (lv_at hl 0 rfl) ?_
      refine lv_iconst (v := nI 2) hx hb dL_state_150 (by decide) ?_
      refine nv_irem hx hb dL_state_151 (by omega) (by decide) (by decide) ?_
      refine lv_iconst (v := nI 1) hx hb dL_state_152 (by decide) ?_
      refine nv_eq1 hx hb dL_state_153 dL_state_156 dL_state_157 dL_state_160 ?_
      refine nv_to (j % 2) (dv1 j h24) ?_
      have hir : iR (nI (j / 8)) 3 ∧ iR (nI (j / 2 % 4)) 4 := ⟨iR_nI (by omega) (by decide), iR_nI (by omega) (by decide)⟩
      refine nv_kLX (vx_runV (As := [.int (nI (j / 8)), .int (nI (j / 2 % 4)), .int (nI (j % 2))]) (rest := [.int ((nI 31) * (fo (fE G) (s4F G) j))]) ⟨hx, hb, hml, hown, hts⟩ (c_X6_ending l hl9 (A := cRg AD 0 165) hG hI cRg_self (nI (j / 8)) (nI (j / 2 % 4)) (j % 2) (by omega)) (cwV 3 hts gL_state_X6_ending rfl rfl rfl (by decide +kernel) ⟨Nat.le_of_ble_eq_true rfl, Nat.le_of_ble_eq_true rfl⟩) (nt_pVn hT hS (fun _ h => h) hP (va_recv hT.1.1 hP.1 (ci := 8) (q0 := 0) rfl rfl)) rfl rfl hl.1 rfl (lv_room (Nat.le_of_ble_eq_true rfl)) dL_state_161 ⟨by show 226 + j + 1 ≤ 250; omega, by show 1356 + 6 * j + 6 ≤ 1500; omega⟩) hS (fun _ h => h) (fun E ce q9 H1 locs1 h0 hE hP1 hK1 hS1 hcell hv9 hcl => absurd (if_pos hir) h0) (fun H locs h0 hP hK hS => ?_)
      refine nv_toi (fE G j) (by rw [if_pos hir, tN_nI (by omega), tN_nI (by omega)]; rfl) ?_
      refine lv_iadd hx hb dL_state_164 ?_
      refine nv_toi (fo (fE G) (s4F G) (j + 1)) rfl ?_
      refine lv_istore_n (lv' := [(1, .int (fo (fE G) (s4F G) (j + 1))), (2, .int (nI j)), (0, .ref (AD 0))]) hx hb dL_state_165 rfl hl (by decide) rfl (fun ls hl => ?_)
      refine lv_iinc (v := nI (j + 1)) (lv' := [(2, .int (nI (j + 1))), (1, .int (fo (fE G) (s4F G) (j + 1))), (0, .ref (AD 0))]) hx hb dL_state_166 hl (k := 1) rfl (by show nI _ + Int32.ofInt 1 = _; exact nI_add _ 1) (by decide) rfl (fun ls hl => ?_)
      refine lv_goto (tgt := 129) hx hb dL_state_169 (by decide) ?_
      refine W.widen (k := 226 + (j + 1)) (n := 1356 + 6 * (j + 1)) (by omega) (by omega) ?_
      exact ih (j + 1) (by omega) _ _ _ hP hS hl
  have h4 : ∀ (n j : Nat), j + n = G 0 → ∀ (H : Heap) (locs : List Loc) (ls : Array Slot), (cW D cI cC cD cR AD G Sv Hi In Le hs ch ty wy ln ea ra wd) H → va_S (cRg AD 0 165) s.heap H locs → lv_has ls 4 [(2, .int (nI j)), (1, .int (fo (fK G) (s3F G) j)), (0, .ref (AD 0))] → W p0 l e0 ({ frames := 8, cells := 250, slots := 1500, locals := 126 }) s m0 args below meth c0 H locs (209 + 2 * j) (1254 + 12 * j) Q (F0 m0 101 ls []) := by
    intro n
    induction n with
    | zero =>
      intro j hj H locs ls hP hS hl
      refine lv_iload_n hx hb dL_state_101 rfl (lv_at hl 0 rfl) ?_
      refine lv_aload_n hx hb dL_state_102 rfl (lv_at hl 2 rfl) ?_
      refine lv_iconst (v := nI 0) hx hb dL_state_103 (by decide) ?_
      refine nv_kLX (vx_runV (As := [.int (nI 0)]) (rest := [.int (nI j)]) ⟨hx, hb, hml, hown, hts⟩ (c_X6_account l hl9 (A := cRg AD 0 165) hG hI cRg_self (nI 0)) (cwV 1 hts gL_state_X6_account rfl rfl rfl (by decide +kernel) ⟨Nat.le_of_ble_eq_true rfl, Nat.le_of_ble_eq_true rfl⟩) (nt_pVn hT hS (fun _ h => h) hP (va_recv hT.1.1 hP.1 (ci := 8) (q0 := 0) rfl rfl)) rfl rfl hl.1 rfl (lv_room (Nat.le_of_ble_eq_true rfl)) dL_state_104 ⟨by show 209 + 2 * j + 1 ≤ 250; omega, by show 1254 + 12 * j + 6 ≤ 1500; omega⟩) hS (fun _ h => h) (fun E ce q9 H1 locs1 h0 hE hP1 hK1 hS1 hcell hv9 hcl => absurd (if_pos (by decide)) h0) (fun H locs h0 hP hK hS => ?_)
      refine nv_to (G 0) (if_pos (by decide)) ?_
      refine nv_icmp_ge (tgt := 127) hx hb dL_state_107 (by decide) (by omega) (by omega) (fun c1 => ?_) (fun c1 => absurd (show G 0 ≤ j by omega) c1)
      have e9 : j = G 0 := by omega
      subst e9
      refine lv_iconst (v := nI 0) hx hb dL_state_127 (by decide) ?_
      refine lv_istore_n (lv' := [(2, .int (nI 0)), (1, .int (fo (fK G) (s3F G) (G 0))), (0, .ref (AD 0))]) hx hb dL_state_128 rfl hl (by decide) rfl (fun ls hl => ?_)
      refine W.widen (k := 226 + 0) (n := 1356 + 6 * 0) (by omega) (by omega) ?_
      exact h5 24 0 (by omega) _ _ _ hP hS hl
    | succ n ih =>
      intro j hj H locs ls hP hS hl
      refine lv_iload_n hx hb dL_state_101 rfl (lv_at hl 0 rfl) ?_
      refine lv_aload_n hx hb dL_state_102 rfl (lv_at hl 2 rfl) ?_
      refine lv_iconst (v := nI 0) hx hb dL_state_103 (by decide) ?_
      refine nv_kLX (vx_runV (As := [.int (nI 0)]) (rest := [.int (nI j)]) ⟨hx, hb, hml, hown, hts⟩ (c_X6_account l hl9 (A := cRg AD 0 165) hG hI cRg_self (nI 0)) (cwV 1 hts gL_state_X6_account rfl rfl rfl (by decide +kernel) ⟨Nat.le_of_ble_eq_true rfl, Nat.le_of_ble_eq_true rfl⟩) (nt_pVn hT hS (fun _ h => h) hP (va_recv hT.1.1 hP.1 (ci := 8) (q0 := 0) rfl rfl)) rfl rfl hl.1 rfl (lv_room (Nat.le_of_ble_eq_true rfl)) dL_state_104 ⟨by show 209 + 2 * j + 1 ≤ 250; omega, by show 1254 + 12 * j + 6 ≤ 1500; omega⟩) hS (fun _ h => h) (fun E ce q9 H1 locs1 h0 hE hP1 hK1 hS1 hcell hv9 hcl => absurd (if_pos (by decide)) h0) (fun H locs h0 hP hK hS => ?_)
      refine nv_to (G 0) (if_pos (by decide)) ?_
      refine nv_icmp_ge (tgt := 127) hx hb dL_state_107 (by decide) (by omega) (by omega) (fun c1 => absurd c1 (by omega)) (fun c1 => ?_)
      have hjb : j < G 0 := by omega
      refine lv_bipush (v := nI 31) hx hb dL_state_110 (by decide) ?_
      refine lv_iload_n hx hb dL_state_112 rfl (lv_at hl 1 rfl) ?_
      refine lv_imul hx hb dL_state_113 ?_
      refine lv_aload_n hx hb dL_state_114 rfl (lv_at hl 2 rfl) ?_
      refine lv_iload_n hx hb dL_state_115 rfl (lv_at hl 0 rfl) ?_
      refine nv_kLX (vx_runV (As := [.int (nI j)]) (rest := [.int ((nI 31) * (fo (fK G) (s3F G) j))]) ⟨hx, hb, hml, hown, hts⟩ (c_X6_keysFor l hl9 (A := cRg AD 0 165) hG hI cRg_self (nI j)) (cwV 1 hts gL_state_X6_keysFor rfl rfl rfl (by decide +kernel) ⟨Nat.le_of_ble_eq_true rfl, Nat.le_of_ble_eq_true rfl⟩) (nt_pVn hT hS (fun _ h => h) hP (va_recv hT.1.1 hP.1 (ci := 8) (q0 := 0) rfl rfl)) rfl rfl hl.1 rfl (lv_room (Nat.le_of_ble_eq_true rfl)) dL_state_116 ⟨by show 209 + 2 * j + 1 + 1 ≤ 250; omega, by show 1254 + 12 * j + 6 + 6 ≤ 1500; omega⟩) hS (fun _ h => h) (fun E ce q9 H1 locs1 h0 hE hP1 hK1 hS1 hcell hv9 hcl => absurd (if_pos (iR_nI hjb (by omega))) h0) (fun H locs h0 hP hK hS => ?_)
      refine nv_toi (fK G j) (by rw [if_pos (iR_nI hjb (by omega)), tN_nI (by omega)]; rfl) ?_
      refine lv_iadd hx hb dL_state_119 ?_
      refine nv_toi (fo (fK G) (s3F G) (j + 1)) rfl ?_
      refine lv_istore_n (lv' := [(1, .int (fo (fK G) (s3F G) (j + 1))), (2, .int (nI j)), (0, .ref (AD 0))]) hx hb dL_state_120 rfl hl (by decide) rfl (fun ls hl => ?_)
      refine lv_iinc (v := nI (j + 1)) (lv' := [(2, .int (nI (j + 1))), (1, .int (fo (fK G) (s3F G) (j + 1))), (0, .ref (AD 0))]) hx hb dL_state_121 hl (k := 1) rfl (by show nI _ + Int32.ofInt 1 = _; exact nI_add _ 1) (by decide) rfl (fun ls hl => ?_)
      refine lv_goto (tgt := 101) hx hb dL_state_124 (by decide) ?_
      refine W.widen (k := 209 + 2 * (j + 1)) (n := 1254 + 12 * (j + 1)) (by omega) (by omega) ?_
      exact ih (j + 1) (by omega) _ _ _ hP hS hl
  have h3 : ∀ (n j : Nat), j + n = G 1 → ∀ (H : Heap) (locs : List Loc) (ls : Array Slot), (cW D cI cC cD cR AD G Sv Hi In Le hs ch ty wy ln ea ra wd) H → va_S (cRg AD 0 165) s.heap H locs → lv_has ls 4 [(2, .int (nI j)), (1, .int (fo (fT G) (s2F G) j)), (0, .ref (AD 0))] → W p0 l e0 ({ frames := 8, cells := 250, slots := 1500, locals := 126 }) s m0 args below meth c0 H locs (196 + 2 * j) (1176 + 12 * j) Q (F0 m0 72 ls []) := by
    intro n
    induction n with
    | zero =>
      intro j hj H locs ls hP hS hl
      refine lv_iload_n hx hb dL_state_72 rfl (lv_at hl 0 rfl) ?_
      refine lv_aload_n hx hb dL_state_73 rfl (lv_at hl 2 rfl) ?_
      refine lv_iconst (v := nI 1) hx hb dL_state_74 (by decide) ?_
      refine nv_kLX (vx_runV (As := [.int (nI 1)]) (rest := [.int (nI j)]) ⟨hx, hb, hml, hown, hts⟩ (c_X6_account l hl9 (A := cRg AD 0 165) hG hI cRg_self (nI 1)) (cwV 1 hts gL_state_X6_account rfl rfl rfl (by decide +kernel) ⟨Nat.le_of_ble_eq_true rfl, Nat.le_of_ble_eq_true rfl⟩) (nt_pVn hT hS (fun _ h => h) hP (va_recv hT.1.1 hP.1 (ci := 8) (q0 := 0) rfl rfl)) rfl rfl hl.1 rfl (lv_room (Nat.le_of_ble_eq_true rfl)) dL_state_75 ⟨by show 196 + 2 * j + 1 ≤ 250; omega, by show 1176 + 12 * j + 6 ≤ 1500; omega⟩) hS (fun _ h => h) (fun E ce q9 H1 locs1 h0 hE hP1 hK1 hS1 hcell hv9 hcl => absurd (if_pos (by decide)) h0) (fun H locs h0 hP hK hS => ?_)
      refine nv_to (G 1) (if_pos (by decide)) ?_
      refine nv_icmp_ge (tgt := 99) hx hb dL_state_78 (by decide) (by omega) (by omega) (fun c1 => ?_) (fun c1 => absurd (show G 1 ≤ j by omega) c1)
      have e9 : j = G 1 := by omega
      subst e9
      refine lv_iconst (v := nI 0) hx hb dL_state_99 (by decide) ?_
      refine lv_istore_n (lv' := [(2, .int (nI 0)), (1, .int (fo (fT G) (s2F G) (G 1))), (0, .ref (AD 0))]) hx hb dL_state_100 rfl hl (by decide) rfl (fun ls hl => ?_)
      refine W.widen (k := 209 + 2 * 0) (n := 1254 + 12 * 0) (by omega) (by omega) ?_
      exact h4 (G 0) 0 (by omega) _ _ _ hP hS hl
    | succ n ih =>
      intro j hj H locs ls hP hS hl
      refine lv_iload_n hx hb dL_state_72 rfl (lv_at hl 0 rfl) ?_
      refine lv_aload_n hx hb dL_state_73 rfl (lv_at hl 2 rfl) ?_
      refine lv_iconst (v := nI 1) hx hb dL_state_74 (by decide) ?_
      refine nv_kLX (vx_runV (As := [.int (nI 1)]) (rest := [.int (nI j)]) ⟨hx, hb, hml, hown, hts⟩ (c_X6_account l hl9 (A := cRg AD 0 165) hG hI cRg_self (nI 1)) (cwV 1 hts gL_state_X6_account rfl rfl rfl (by decide +kernel) ⟨Nat.le_of_ble_eq_true rfl, Nat.le_of_ble_eq_true rfl⟩) (nt_pVn hT hS (fun _ h => h) hP (va_recv hT.1.1 hP.1 (ci := 8) (q0 := 0) rfl rfl)) rfl rfl hl.1 rfl (lv_room (Nat.le_of_ble_eq_true rfl)) dL_state_75 ⟨by show 196 + 2 * j + 1 ≤ 250; omega, by show 1176 + 12 * j + 6 ≤ 1500; omega⟩) hS (fun _ h => h) (fun E ce q9 H1 locs1 h0 hE hP1 hK1 hS1 hcell hv9 hcl => absurd (if_pos (by decide)) h0) (fun H locs h0 hP hK hS => ?_)
      refine nv_to (G 1) (if_pos (by decide)) ?_
      refine nv_icmp_ge (tgt := 99) hx hb dL_state_78 (by decide) (by omega) (by omega) (fun c1 => absurd c1 (by omega)) (fun c1 => ?_)
      have hjb : j < G 1 := by omega
      refine lv_bipush (v := nI 31) hx hb dL_state_81 (by decide) ?_
      refine lv_iload_n hx hb dL_state_83 rfl (lv_at hl 1 rfl) ?_
      refine lv_imul hx hb dL_state_84 ?_
      refine lv_aload_n hx hb dL_state_85 rfl (lv_at hl 2 rfl) ?_
      refine lv_iload_n hx hb dL_state_86 rfl (lv_at hl 0 rfl) ?_
      refine lv_iconst (v := nI 0) hx hb dL_state_87 (by decide) ?_
      refine nv_kLX (vx_runV (As := [.int (nI j), .int (nI 0)]) (rest := [.int ((nI 31) * (fo (fT G) (s2F G) j))]) ⟨hx, hb, hml, hown, hts⟩ (c_X6_thresholdOf l hl9 (A := cRg AD 0 165) hG hI cRg_self (nI j) (nI 0)) (cwV 2 hts gL_state_X6_thresholdOf rfl rfl rfl (by decide +kernel) ⟨Nat.le_of_ble_eq_true rfl, Nat.le_of_ble_eq_true rfl⟩) (nt_pVn hT hS (fun _ h => h) hP (va_recv hT.1.1 hP.1 (ci := 8) (q0 := 0) rfl rfl)) rfl rfl hl.1 rfl (lv_room (Nat.le_of_ble_eq_true rfl)) dL_state_88 ⟨by show 196 + 2 * j + 1 + 1 ≤ 250; omega, by show 1176 + 12 * j + 6 + 6 ≤ 1500; omega⟩) hS (fun _ h => h) (fun E ce q9 H1 locs1 h0 hE hP1 hK1 hS1 hcell hv9 hcl => absurd ((if_pos (iR_nI hjb (by omega))).trans (if_pos (Or.inl rfl))) h0) (fun H locs h0 hP hK hS => ?_)
      refine nv_toi (fT G j) (by rw [if_pos (iR_nI hjb (by omega)), if_pos rfl, tN_nI (by omega)]; rfl) ?_
      refine lv_iadd hx hb dL_state_91 ?_
      refine nv_toi (fo (fT G) (s2F G) (j + 1)) rfl ?_
      refine lv_istore_n (lv' := [(1, .int (fo (fT G) (s2F G) (j + 1))), (2, .int (nI j)), (0, .ref (AD 0))]) hx hb dL_state_92 rfl hl (by decide) rfl (fun ls hl => ?_)
      refine lv_iinc (v := nI (j + 1)) (lv' := [(2, .int (nI (j + 1))), (1, .int (fo (fT G) (s2F G) (j + 1))), (0, .ref (AD 0))]) hx hb dL_state_93 hl (k := 1) rfl (by show nI _ + Int32.ofInt 1 = _; exact nI_add _ 1) (by decide) rfl (fun ls hl => ?_)
      refine lv_goto (tgt := 72) hx hb dL_state_96 (by decide) ?_
      refine W.widen (k := 196 + 2 * (j + 1)) (n := 1176 + 12 * (j + 1)) (by omega) (by omega) ?_
      exact ih (j + 1) (by omega) _ _ _ hP hS hl
  have hi : ∀ (d : Nat) (hd : d < G 0) (kz : ∀ (H : Heap) (locs : List Loc) (ls : Array Slot), (cW D cI cC cD cR AD G Sv Hi In Le hs ch ty wy ln ea ra wd) H → va_S (cRg AD 0 165) s.heap H locs → lv_has ls 4 [(3, .int (nI 11)), (1, .int (fo (qDoor G d) (foD G (s1F G) d) 11)), (2, .int (nI d)), (0, .ref (AD 0))] → W p0 l e0 ({ frames := 8, cells := 250, slots := 1500, locals := 126 }) s m0 args below meth c0 H locs (12 + 23 * d + 2 * 11) (72 + 138 * d + 12 * 11) Q (F0 m0 64 ls [])), ∀ (n j : Nat), j + n = 11 → ∀ (H : Heap) (locs : List Loc) (ls : Array Slot), (cW D cI cC cD cR AD G Sv Hi In Le hs ch ty wy ln ea ra wd) H → va_S (cRg AD 0 165) s.heap H locs → lv_has ls 4 [(3, .int (nI j)), (1, .int (fo (qDoor G d) (foD G (s1F G) d) j)), (2, .int (nI d)), (0, .ref (AD 0))] → W p0 l e0 ({ frames := 8, cells := 250, slots := 1500, locals := 126 }) s m0 args below meth c0 H locs (12 + 23 * d + 2 * j) (72 + 138 * d + 12 * j) Q (F0 m0 40 ls []) := by
    intro d hd kz
    intro n
    induction n with
    | zero =>
      intro j hj H locs ls hP hS hl
      refine lv_iload_n hx hb dL_state_40 rfl (lv_at hl 0 rfl) ?_
      refine lv_bipush (v := nI 11) hx hb dL_state_41 (by decide) ?_
      refine nv_icmp_ge (tgt := 64) hx hb dL_state_43 (by decide) (by omega) (by omega) (fun c1 => ?_) (fun c1 => absurd (show 11 ≤ j by omega) c1)
      have e9 : j = 11 := by omega
      subst e9
      exact kz H locs ls hP hS hl
    | succ n ih =>
      intro j hj H locs ls hP hS hl
      refine lv_iload_n hx hb dL_state_40 rfl (lv_at hl 0 rfl) ?_
      refine lv_bipush (v := nI 11) hx hb dL_state_41 (by decide) ?_
      refine nv_icmp_ge (tgt := 64) hx hb dL_state_43 (by decide) (by omega) (by omega) (fun c1 => absurd c1 (by omega)) (fun c1 => ?_)
      have h11 : j < 11 := by omega
      have hid := iR_nI hd (by omega)
      have hij : iR (nI j) 11 := iR_nI h11 (by decide)
      refine lv_bipush (v := nI 31) hx hb dL_state_46 (by decide) ?_
      refine lv_iload_n hx hb dL_state_48 rfl (lv_at hl 1 rfl) ?_
      refine lv_imul hx hb dL_state_49 ?_
      refine lv_aload_n hx hb dL_state_50 rfl (lv_at hl 3 rfl) ?_
      refine lv_iload_n hx hb dL_state_51 rfl (lv_at hl 2 rfl) ?_
      refine lv_iload_n hx hb dL_state_52 rfl (lv_at hl 0 rfl) ?_
      refine nv_kLX (vx_runV (As := [.int (nI d), .int (nI j)]) (rest := [.int ((nI 31) * (fo (qDoor G d) (foD G (s1F G) d) j))]) ⟨hx, hb, hml, hown, hts⟩ (c_X6_doorOf l hl9 (A := cRg AD 0 165) hG hI cRg_self (nI d) (nI j)) (cwV 2 hts gL_state_X6_doorOf rfl rfl rfl (by decide +kernel) ⟨Nat.le_of_ble_eq_true rfl, Nat.le_of_ble_eq_true rfl⟩) (nt_pVn hT hS (fun _ h => h) hP (va_recv hT.1.1 hP.1 (ci := 8) (q0 := 0) rfl rfl)) rfl rfl hl.1 rfl (lv_room (Nat.le_of_ble_eq_true rfl)) dL_state_53 ⟨by show 12 + 23 * d + 2 * j + 2 ≤ 250; omega, by show 72 + 138 * d + 12 * j + 12 ≤ 1500; omega⟩) hS (fun _ h => h) (fun E ce q9 H1 locs1 h0 hE hP1 hK1 hS1 hcell hv9 hcl => absurd ((if_pos hid).trans (if_pos hij)) h0) (fun H locs h0 hP hK hS => ?_)
      refine nv_toi (qDoor G d j) (by rw [if_pos hid, if_pos hij, tN_nI (by omega), tN_nI (by omega)]) ?_
      refine lv_iadd hx hb dL_state_56 ?_
      refine nv_toi (fo (qDoor G d) (foD G (s1F G) d) (j + 1)) rfl ?_
      refine lv_istore_n (lv' := [(1, .int (fo (qDoor G d) (foD G (s1F G) d) (j + 1))), (3, .int (nI j)), (2, .int (nI d)), (0, .ref (AD 0))]) hx hb dL_state_57 rfl hl (by decide) rfl (fun ls hl => ?_)
      refine lv_iinc (v := nI (j + 1)) (lv' := [(3, .int (nI (j + 1))), (1, .int (fo (qDoor G d) (foD G (s1F G) d) (j + 1))), (2, .int (nI d)), (0, .ref (AD 0))]) hx hb dL_state_58 hl (k := 1) rfl (by show nI _ + Int32.ofInt 1 = _; exact nI_add _ 1) (by decide) rfl (fun ls hl => ?_)
      refine lv_goto (tgt := 40) hx hb dL_state_61 (by decide) ?_
      refine W.widen (k := 12 + 23 * d + 2 * (j + 1)) (n := 72 + 138 * d + 12 * (j + 1)) (by omega) (by omega) ?_
      exact ih (j + 1) (by omega) _ _ _ hP hS hl
  have h2 : ∀ (n d : Nat), d + n = G 0 → ∀ (H : Heap) (locs : List Loc) (ls : Array Slot), (cW D cI cC cD cR AD G Sv Hi In Le hs ch ty wy ln ea ra wd) H → va_S (cRg AD 0 165) s.heap H locs → lv_has ls 4 [(2, .int (nI d)), (1, .int (foD G (s1F G) d)), (0, .ref (AD 0))] → W p0 l e0 ({ frames := 8, cells := 250, slots := 1500, locals := 126 }) s m0 args below meth c0 H locs (11 + 23 * d) (66 + 138 * d) Q (F0 m0 29 ls []) := by
    intro n
    induction n with
    | zero =>
      intro d hj H locs ls hP hS hl
      refine lv_iload_n hx hb dL_state_29 rfl (lv_at hl 0 rfl) ?_
      refine lv_aload_n hx hb dL_state_30 rfl (lv_at hl 2 rfl) ?_
      refine lv_iconst (v := nI 0) hx hb dL_state_31 (by decide) ?_
      refine nv_kLX (vx_runV (As := [.int (nI 0)]) (rest := [.int (nI d)]) ⟨hx, hb, hml, hown, hts⟩ (c_X6_account l hl9 (A := cRg AD 0 165) hG hI cRg_self (nI 0)) (cwV 1 hts gL_state_X6_account rfl rfl rfl (by decide +kernel) ⟨Nat.le_of_ble_eq_true rfl, Nat.le_of_ble_eq_true rfl⟩) (nt_pVn hT hS (fun _ h => h) hP (va_recv hT.1.1 hP.1 (ci := 8) (q0 := 0) rfl rfl)) rfl rfl hl.1 rfl (lv_room (Nat.le_of_ble_eq_true rfl)) dL_state_32 ⟨by show 11 + 23 * d + 1 ≤ 250; omega, by show 66 + 138 * d + 6 ≤ 1500; omega⟩) hS (fun _ h => h) (fun E ce q9 H1 locs1 h0 hE hP1 hK1 hS1 hcell hv9 hcl => absurd (if_pos (by decide)) h0) (fun H locs h0 hP hK hS => ?_)
      refine nv_to (G 0) (if_pos (by decide)) ?_
      refine nv_icmp_ge (tgt := 70) hx hb dL_state_35 (by decide) (by omega) (by omega) (fun c1 => ?_) (fun c1 => absurd (show G 0 ≤ d by omega) c1)
      have e9 : d = G 0 := by omega
      subst e9
      refine lv_iconst (v := nI 0) hx hb dL_state_70 (by decide) ?_
      refine lv_istore_n (lv' := [(2, .int (nI 0)), (1, .int (foD G (s1F G) (G 0))), (0, .ref (AD 0))]) hx hb dL_state_71 rfl hl (by decide) rfl (fun ls hl => ?_)
      refine W.widen (k := 196 + 2 * 0) (n := 1176 + 12 * 0) (by omega) (by omega) ?_
      exact h3 (G 1) 0 (by omega) _ _ _ hP hS hl
    | succ n ih =>
      intro d hj H locs ls hP hS hl
      refine lv_iload_n hx hb dL_state_29 rfl (lv_at hl 0 rfl) ?_
      refine lv_aload_n hx hb dL_state_30 rfl (lv_at hl 2 rfl) ?_
      refine lv_iconst (v := nI 0) hx hb dL_state_31 (by decide) ?_
      refine nv_kLX (vx_runV (As := [.int (nI 0)]) (rest := [.int (nI d)]) ⟨hx, hb, hml, hown, hts⟩ (c_X6_account l hl9 (A := cRg AD 0 165) hG hI cRg_self (nI 0)) (cwV 1 hts gL_state_X6_account rfl rfl rfl (by decide +kernel) ⟨Nat.le_of_ble_eq_true rfl, Nat.le_of_ble_eq_true rfl⟩) (nt_pVn hT hS (fun _ h => h) hP (va_recv hT.1.1 hP.1 (ci := 8) (q0 := 0) rfl rfl)) rfl rfl hl.1 rfl (lv_room (Nat.le_of_ble_eq_true rfl)) dL_state_32 ⟨by show 11 + 23 * d + 1 ≤ 250; omega, by show 66 + 138 * d + 6 ≤ 1500; omega⟩) hS (fun _ h => h) (fun E ce q9 H1 locs1 h0 hE hP1 hK1 hS1 hcell hv9 hcl => absurd (if_pos (by decide)) h0) (fun H locs h0 hP hK hS => ?_)
      refine nv_to (G 0) (if_pos (by decide)) ?_
      refine nv_icmp_ge (tgt := 70) hx hb dL_state_35 (by decide) (by omega) (by omega) (fun c1 => absurd c1 (by omega)) (fun c1 => ?_)
      refine lv_iconst (v := nI 0) hx hb dL_state_38 (by decide) ?_
      refine lv_istore_n (lv' := [(3, .int (nI 0)), (2, .int (nI d)), (1, .int (foD G (s1F G) d)), (0, .ref (AD 0))]) hx hb dL_state_39 rfl hl (by decide) rfl (fun ls hl => ?_)
      have hl := lv_sub hl [0, 2, 1, 3] rfl
      refine W.widen (k := 12 + 23 * d + 2 * 0) (n := 72 + 138 * d + 12 * 0) (by omega) (by omega) ?_
      refine hi d (by omega) (fun H locs ls hP hS hl => ?_) 11 0 (by omega) _ _ _ hP hS hl
      refine lv_iinc (v := nI (d + 1)) (lv' := [(2, .int (nI (d + 1))), (3, .int (nI 11)), (1, .int (fo (qDoor G d) (foD G (s1F G) d) 11)), (0, .ref (AD 0))]) hx hb dL_state_64 hl (k := 2) rfl (by show nI _ + Int32.ofInt 1 = _; exact nI_add _ 1) (by decide) rfl (fun ls hl => ?_)
      refine lv_goto (tgt := 29) hx hb dL_state_67 (by decide) ?_
      refine W.widen (k := 11 + 23 * (d + 1)) (n := 66 + 138 * (d + 1)) (by omega) (by omega) ?_
      exact ih (d + 1) (by omega) _ _ _ hP hS (lv_sub hl [0, 2, 3] rfl)
  have h1 : ∀ (n j : Nat), j + n = 11 → ∀ (H : Heap) (locs : List Loc) (ls : Array Slot), (cW D cI cC cD cR AD G Sv Hi In Le hs ch ty wy ln ea ra wd) H → va_S (cRg AD 0 165) s.heap H locs → lv_has ls 4 [(2, .int (nI j)), (1, .int (fo (fA G) (nI 0) j)), (0, .ref (AD 0))] → W p0 l e0 ({ frames := 8, cells := 250, slots := 1500, locals := 126 }) s m0 args below meth c0 H locs (j) (6 * j) Q (F0 m0 4 ls []) := by
    intro n
    induction n with
    | zero =>
      intro j hj H locs ls hP hS hl
      refine lv_iload_n hx hb dL_state_4 rfl (lv_at hl 0 rfl) ?_
      refine lv_bipush (v := nI 11) hx hb dL_state_5 (by decide) ?_
      refine nv_icmp_ge (tgt := 27) hx hb dL_state_7 (by decide) (by omega) (by omega) (fun c1 => ?_) (fun c1 => absurd (show 11 ≤ j by omega) c1)
      have e9 : j = 11 := by omega
      subst e9
      refine lv_iconst (v := nI 0) hx hb dL_state_27 (by decide) ?_
      refine lv_istore_n (lv' := [(2, .int (nI 0)), (1, .int (fo (fA G) (nI 0) 11)), (0, .ref (AD 0))]) hx hb dL_state_28 rfl hl (by decide) rfl (fun ls hl => ?_)
      refine W.widen (k := 11 + 23 * 0) (n := 66 + 138 * 0) (by omega) (by omega) ?_
      exact h2 (G 0) 0 (by omega) _ _ _ hP hS hl
    | succ n ih =>
      intro j hj H locs ls hP hS hl
      refine lv_iload_n hx hb dL_state_4 rfl (lv_at hl 0 rfl) ?_
      refine lv_bipush (v := nI 11) hx hb dL_state_5 (by decide) ?_
      refine nv_icmp_ge (tgt := 27) hx hb dL_state_7 (by decide) (by omega) (by omega) (fun c1 => absurd c1 (by omega)) (fun c1 => ?_)
      have h11 : j < 11 := by omega
      have hij : iR (nI j) 13 := iR_nI (by omega) (by decide)
      refine lv_bipush (v := nI 31) hx hb dL_state_10 (by decide) ?_
      refine lv_iload_n hx hb dL_state_12 rfl (lv_at hl 1 rfl) ?_
      refine lv_imul hx hb dL_state_13 ?_
      refine lv_aload_n hx hb dL_state_14 rfl (lv_at hl 2 rfl) ?_
      refine lv_iload_n hx hb dL_state_15 rfl (lv_at hl 0 rfl) ?_
      refine nv_kLX (vx_runV (As := [.int (nI j)]) (rest := [.int ((nI 31) * (fo (fA G) (nI 0) j))]) ⟨hx, hb, hml, hown, hts⟩ (c_X6_account l hl9 (A := cRg AD 0 165) hG hI cRg_self (nI j)) (cwV 1 hts gL_state_X6_account rfl rfl rfl (by decide +kernel) ⟨Nat.le_of_ble_eq_true rfl, Nat.le_of_ble_eq_true rfl⟩) (nt_pVn hT hS (fun _ h => h) hP (va_recv hT.1.1 hP.1 (ci := 8) (q0 := 0) rfl rfl)) rfl rfl hl.1 rfl (lv_room (Nat.le_of_ble_eq_true rfl)) dL_state_16 ⟨by show j + 1 ≤ 250; omega, by show 6 * j + 6 ≤ 1500; omega⟩) hS (fun _ h => h) (fun E ce q9 H1 locs1 h0 hE hP1 hK1 hS1 hcell hv9 hcl => absurd (if_pos hij) h0) (fun H locs h0 hP hK hS => ?_)
      refine nv_toi (fA G j) (by rw [if_pos hij, tN_nI (by omega), qAcc_G h11]; rfl) ?_
      refine lv_iadd hx hb dL_state_19 ?_
      refine nv_toi (fo (fA G) (nI 0) (j + 1)) rfl ?_
      refine lv_istore_n (lv' := [(1, .int (fo (fA G) (nI 0) (j + 1))), (2, .int (nI j)), (0, .ref (AD 0))]) hx hb dL_state_20 rfl hl (by decide) rfl (fun ls hl => ?_)
      refine lv_iinc (v := nI (j + 1)) (lv' := [(2, .int (nI (j + 1))), (1, .int (fo (fA G) (nI 0) (j + 1))), (0, .ref (AD 0))]) hx hb dL_state_21 hl (k := 1) rfl (by show nI _ + Int32.ofInt 1 = _; exact nI_add _ 1) (by decide) rfl (fun ls hl => ?_)
      refine lv_goto (tgt := 4) hx hb dL_state_24 (by decide) ?_
      refine W.widen (k := j + 1) (n := 6 * (j + 1)) (by omega) (by omega) ?_
      exact ih (j + 1) (by omega) _ _ _ hP hS hl
  exact h1 11 0 (by omega) _ _ _ hP hS hl
