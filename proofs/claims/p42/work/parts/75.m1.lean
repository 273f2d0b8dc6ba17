section LMB
variable {p : Program} {l : Launch} {e : Env} {R : Room} {s : State} {m : MethodId} {args : Array Value} {below : List Frame} {meth : Method} {c : Code} {H H0 : Heap} {locs : List Loc} {cells slots : Nat} {Q : State → Prop}
variable {cc : ByteArray} {pc mc ms mc1 ms1 : Nat} {ls : Array Slot} {rest st0 : List Value} {A A1 : Nat → Prop} {P1 : Heap → Prop} {B : Nat → Heap → Prop} {XC : String → State → State → Prop}
theorem nv_retLz {x v : Int32} {ty : FieldType} (hq : ∀ t, vx_MQ below (gQ v P1 A) XC args s mc ms A t → Q t) (hx : p.tables.exec = Jvm.exec) (hb : c.code = cc) (hr : meth.sig.returnType = some ty) (hlocks : meth.locks = false) (hc : cells ≤ mc) (hs : slots ≤ ms) (hn : narrow ty (.int x) = .int x) (he : x = v) (hS : va_S A s.heap H locs) (hP : P1 H) (hdg : decode cc pc = .ok (.ireturn, 1)) : W p l e R s m args below meth c H locs cells slots Q (F0 m pc ls [.int x]) :=
  W.mono hq (W.widen hc hs (vx_ret (W.zret hx hb hr hn (fun t ht _ => ⟨⟨x, (), rfl, he, by subst ht; exact hP⟩, hS.F ht⟩) hS.2.2 hdg hlocks)))
theorem nv_retLv (hq : ∀ t, vx_MQ below (gQv P1 A) XC args s mc ms A t → Q t) (hx : p.tables.exec = Jvm.exec) (hb : c.code = cc) (hr : meth.sig.returnType = none) (hlocks : meth.locks = false) (hc : cells ≤ mc) (hs : slots ≤ ms) (hS : va_S A s.heap H locs) (hP : P1 H) (hdg : decode cc pc = .ok (.return_, 1)) : W p l e R s m args below meth c H locs cells slots Q (F0 m pc ls []) :=
  W.mono hq (W.widen hc hs (vx_ret (W.vret hx hb hr (fun t ht _ => ⟨⟨(), rfl, trivial, by subst ht; exact hP⟩, hS.F ht⟩) hS.2.2 hdg hlocks)))
theorem nv_retLn {r : Nat} {rt : FieldType} (hq : ∀ t, vx_MQ below (gQn B A) XC args s mc ms A t → Q t) (hx : p.tables.exec = Jvm.exec) (hb : c.code = cc) (hr : meth.sig.returnType = some rt) (hrt : (∃ n, rt = .object n) ∨ ∃ t, rt = .array t) (hlocks : meth.locks = false) (hc : cells ≤ mc) (hs : slots ≤ ms) (hS : va_S A s.heap H locs) (hB : B r H) (hdg : decode cc pc = .ok (.areturn, 1)) : W p l e R s m args below meth c H locs cells slots Q (F0 m pc ls [.ref r]) :=
  W.mono hq (W.widen hc hs (vx_ret (W.aret hx hb hr hrt (Or.inr ⟨_, rfl⟩) (fun t ht _ => ⟨⟨(), r, rfl, trivial, by subst ht; exact hB⟩, hS.F ht⟩) hS.2.2 hdg hlocks)))
theorem nv_kNv {a : Array Value} (hr : vx_Run p l e R s m args below meth c H locs cells slots mc1 ms1 (F0 m pc ls st0) rest (gQv P1 A1 a) noX A1) (hS : va_S A H0 H locs) (hA : ∀ q, A1 q → A q)
    (k : ∀ (H1 : Heap) (locs1 : List Loc), P1 H1 → cFr A1 H H1 → va_S A H0 H1 locs1 → W p l e R s m args below meth c H1 locs1 (cells + mc1) (slots + ms1) Q (F0 m (pc + 3) ls rest)) : W p l e R s m args below meth c H locs cells slots Q (F0 m pc ls st0) := by
  refine vx_callv hr hS (fun q _ h => hA q h) (fun q h => hA q h) (fun q _ h => h.elim) (fun E ce q9 u t H1 locs1 ht _ hf _ _ _ _ _ _ _ => hf.elim) (fun u t H1 locs1 ht _ hp hB _ hk hS1 => ?_)
  exact k H1 locs1 (by rw [← ht]; exact hB) hk hS1
theorem vx_callr {S SX : Type} {post : S → Prop} {px : SX → Prop} {B : S → Nat → State → Prop} {BX : String → SX → State → Prop} {AX free : Nat → Prop} {A0 : Nat → Prop} {a : Array Value} {mc ms : Nat} (hr : vx_Run p l e R s m args below meth c H locs cells slots mc ms (F0 m pc ls st0) rest (va_Qr post B A1 a) (vx_X px BX AX) free) (hS : va_S A0 H0 H locs) (hA : ∀ q, q < H.size → A1 q → A0 q) (hf : ∀ q, free q → A0 q) (hAX : ∀ q, q < H.size → AX q → A0 q)
    (kx : ∀ (E : String) (ce : Cell) (q9 : Addr) (u : SX) (t : State) (H1 : Heap) (locs1 : List Loc), t.heap = H1 → s.vm.Alike t.vm → px u → BX E u t → H.size ≤ H1.size → (∀ q : Nat, q < H.size → ¬ AX q → H1[q]? = H[q]?) → va_S A0 H0 H1 locs1 → H1[q9]? = some ce → ce.vm = .none → s.vm.findClass E = some ce.cls → vx_W p l e R s m args below meth c H1 locs1 (cells + mc) (slots + ms) Q (F0 m pc ls rest) q9)
    (kk : ∀ (u : S) (r : Nat) (t : State) (H1 : Heap) (locs1 : List Loc), t.heap = H1 → s.vm.Alike t.vm → post u → B u r t → H.size ≤ H1.size → (∀ q : Nat, q < H.size → ¬ A1 q → H1[q]? = H[q]?) → va_S A0 H0 H1 locs1 → W p l e R s m args below meth c H1 locs1 (cells + mc) (slots + ms) Q (F0 m (pc + 3) ls (.ref r :: rest))) : W p l e R s m args below meth c H locs cells slots Q (F0 m pc ls st0) := by
  intro T hT X
  rcases hr T hT X with ⟨v, st₀, t, T', L, h0, X', hL, e1, e2, ⟨⟨u, r, hv, hp, hb⟩, hF⟩, st⟩ | ⟨q, st₀, t, T', L, E, ce, h0, X', hL, e1, e2, ⟨u, hp, hb, hF⟩, hce, hcv, hcl, st⟩
  · cases hv
    obtain ⟨k1, k2, k3⟩ := vx_keep h0 e1 hS hA hf hL hF
    obtain ⟨t2, a1, b1⟩ := kk u r t T'.heap (locs ++ L) e1.symm (by rw [← e2]; exact X'.warmed.alike) hp hb k1 k2 k3 T' rfl X'
    exact ⟨t2, st t2 a1, b1⟩
  · obtain ⟨k1, k2, k3⟩ := vx_keep h0 e1 hS hAX hf hL hF
    obtain ⟨t2, a1, b1⟩ := kx E ce q u t T'.heap (locs ++ L) e1.symm (by rw [← e2]; exact X'.warmed.alike) hp hb k1 k2 k3 (by rw [e1]; exact hce) hcv hcl T' rfl X'
    exact ⟨t2, st.trans a1, b1⟩
theorem nv_kNn {a : Array Value} (hr : vx_Run p l e R s m args below meth c H locs cells slots mc1 ms1 (F0 m pc ls st0) rest (gQn B A1 a) noX A1) (hS : va_S A H0 H locs) (hA : ∀ q, A1 q → A q)
    (k : ∀ (r : Nat) (H1 : Heap) (locs1 : List Loc), B r H1 → cFr A1 H H1 → va_S A H0 H1 locs1 → W p l e R s m args below meth c H1 locs1 (cells + mc1) (slots + ms1) Q (F0 m (pc + 3) ls (.ref r :: rest))) : W p l e R s m args below meth c H locs cells slots Q (F0 m pc ls st0) := by
  refine vx_callr hr hS (fun q _ h => hA q h) (fun q h => hA q h) (fun q _ h => h.elim) (fun E ce q9 u t H1 locs1 ht _ hf _ _ _ _ _ _ _ => hf.elim) (fun u r t H1 locs1 ht _ hp hB _ hk hS1 => ?_)
  exact k r H1 locs1 (by rw [← ht]; exact hB) hk hS1
end LMB
/-- the printed words of runs lack a class of its handlers: it stands in the tables -/
def aW2 : List Cond := [.classLink RL 75 "java/lang/UnsupportedOperationException"]
def wsM_runs : List Cond := wsL_runs ++ aW2
def wsM_faults : List Cond := wsNL_faults ++ aW2
theorem wsM_r : ∀ w ∈ wsL_runs, w ∈ wsM_runs := fun _ h => List.mem_append_left _ h
theorem wsM_f : ∀ w ∈ wsNL_faults, w ∈ wsM_faults := fun _ h => List.mem_append_left _ h
theorem ggM_faults_L_runs : GoodIn wsM_faults wsM_runs := goodIn_app (goodIn_m ggNL_faults_L_runs wsM_f) (goodIn_sub (fun _ h => List.mem_append_right _ h) (by decide +kernel))
set_option maxRecDepth 100000 in
theorem gM_faults_L_runs : GoodIn wsM_faults (va_wsS RL 138 yL_runs wsM_runs) := goodIn_app (goodIn_of _ (by decide +kernel)) ggM_faults_L_runs
/-! the script's ints; what put leaves in the input; what read leaves -/
def xPre (b9 L : Nat) (xs : Nat → Int32) : State → Prop := fun U => va_X b9 L xs U U.heap
theorem xPre_pS {s : State} {b9 L : Nat} {xs : Nat → Int32} {A : Nat → Prop} {H : Heap} {locs : List Loc} {As : List Value} (hX : va_X b9 L xs s s.heap) (hb : b9 < s.heap.size) (hA : ¬ A b9) (hS : va_S A s.heap H locs) : PreS s H (va_Pc As (xPre b9 L xs)) As := ⟨fun _ _ _ _ h => ⟨h.1, h.2.moved (Vm.Alike.refl _)⟩, fun U hU hW => ⟨rfl, by
  show va_X b9 L xs U U.heap
  rw [hU]
  exact (hX.kept (hS.2.1 b9 hb hA)).moved hW.alike⟩⟩
theorem wrL_snoc : ∀ {l : List Nat} {F : Nat → Nat} {n c : Nat}, wrL (l ++ [c]) F n = va_up (wrL l F n) (n + l.length) c
  | [], F, n, c => rfl
  | d :: l, F, n, c => by
    show wrL (l ++ [c]) (va_up F n d) (n + 1) = _
    rw [wrL_snoc]
    show _ = va_up (wrL l (va_up F n d) (n + 1)) (n + (l.length + 1)) c
    rw [show n + 1 + l.length = n + (l.length + 1) by omega]
theorem take_snoc {L : List Nat} {j : Nat} (h : j < L.length) : L.take (j + 1) = L.take j ++ [L.getD j 0] := by
  rw [List.take_add_one, List.getElem?_eq_getElem h, List.getD_eq_getElem?_getD, List.getElem?_eq_getElem h]
  rfl
theorem bO_c : ∀ c, c < 127 → bO (nI c) 0 = 0 ∧ bO (nI c) 1 = 0 ∧ bO (nI c) 2 = 0 ∧ bO (nI c) 3 = c := by decide +kernel
theorem bC_c {c : Nat} (h : 32 ≤ c) (h2 : c ≤ 126) : sm (bC (nI c)) 4 = 1 := by
  obtain ⟨h0, h1, h3, h4⟩ := bO_c c (by omega)
  simp only [sm, bC, h0, h1, h3, h4, ↓reduceIte]
  rw [if_neg (by omega), if_pos ⟨h, h2⟩]
theorem ap_c {F : Nat → Nat} {n c : Nat} (h : 32 ≤ c) (h2 : c ≤ 126) : apI F n (nI c) 4 = (va_up F n c, n + 1) := by
  obtain ⟨h0, h1, h3, h4⟩ := bO_c c (by omega)
  simp only [apI, h0, h1, h3, h4, ↓reduceIte]
  rw [if_neg (by omega)]
theorem lF.app1 {k : Nat} {G Sv Hi In Le : Nat → Nat} {hs ch ty wy ln c : Nat} (hF : lF k G Sv Hi In Le hs ch ty wy ln) (hk : k < 512) (h1 : 32 ≤ c) (h2 : c ≤ 126) (h3 : ty + 1 ≤ 60) : lF (k + 1) G Sv Hi (va_up In ty c) Le hs ch (ty + 1) wy ln := by
  have h := hF.append hk (nI c)
  rw [if_neg (by rw [bC_c h1 h2]; decide), if_neg (by rw [bC_c h1 h2]; omega), if_neg (by rw [bC_c h1 h2]; decide), if_neg (by rw [bC_c h1 h2]; omega), ap_c h1 h2] at h
  exact h
/-- the letters of a text that can be appended -/
abbrev okT (T : List Nat) : Prop := ∀ c ∈ T, 32 ≤ c ∧ c ≤ 126
theorem okT_at {T : List Nat} (h : okT T) {j : Nat} (hj : j < T.length) : 32 ≤ T.getD j 0 ∧ T.getD j 0 ≤ 126 := by
  rw [List.getD_eq_getElem?_getD, List.getElem?_eq_getElem hj]
  exact h _ (List.getElem_mem hj)
theorem lF.wr {k : Nat} {G Sv Hi In Le : Nat → Nat} {hs ch ty wy ln : Nat} {T : List Nat} (hF : lF k G Sv Hi In Le hs ch ty wy ln) (hT : okT T) (hk : k + T.length ≤ 512) (h60 : ty + T.length ≤ 60) : ∀ j, j ≤ T.length → lF (k + j) G Sv Hi (wrL (T.take j) In ty) Le hs ch (ty + j) wy ln
  | 0, _ => hF
  | j + 1, hj => by
    have h := (hF.wr hT hk h60 j (by omega)).app1 (by omega) (okT_at hT (j := j) (by omega)).1 (okT_at hT (j := j) (by omega)).2 (by omega)
    rw [take_snoc (by omega), wrL_snoc, List.length_take, Nat.min_eq_left (by omega)]
    exact h
theorem lF.wrAll {k : Nat} {G Sv Hi In Le : Nat → Nat} {hs ch ty wy ln : Nat} {T : List Nat} (hF : lF k G Sv Hi In Le hs ch ty wy ln) (hT : okT T) (hk : k + T.length ≤ 512) (h60 : ty + T.length ≤ 60) : lF (k + T.length) G Sv Hi (wrL T In ty) Le hs ch (ty + T.length) wy ln := by
  have h := hF.wr hT hk h60 T.length (Nat.le_refl _)
  rw [List.take_length] at h
  exact h
/-- what read answers, -1 and -2 for what it throws -/
def rdV (In : Nat → Nat) (ty : Nat) (G : Nat → Nat) : Int32 := if mal In ty then -1 else if rS In ty G < kL In ty + 1 then -2 else nI (kL In ty + 1)
def rdW (D : va_G) (cI cC cD cR : ClassId) (AD : Nat → Nat) (G Sv Hi In Le : Nat → Nat) (hs ch ty wy ln : Nat) (ea ra wd : Int32) (H : Heap) : Prop := cW D cI cC cD cR AD ((if mal In ty then G else (if rS In ty G < kL In ty + 1 then G else (GS In ty G (kL In ty + 1))))) Sv ((if mal In ty then Hi else (if rS In ty G < kL In ty + 1 then Hi else (hPush Hi G ch)))) In Le hs ((if mal In ty then ch else (if rS In ty G < kL In ty + 1 then ch else (if ch = 8 then 8 else ch + 1)))) 0 ((if mal In ty then wy else (if rS In ty G < kL In ty + 1 then vWy (vS In ty G (rS In ty G)) wy else wy))) ln ((if mal In ty then nI (oE In ty (sn In ty (kL In ty))).1 else ea)) ((if mal In ty then ra else (if rS In ty G < kL In ty + 1 then nI (rS In ty G) else ra))) ((if mal In ty then wd else (if rS In ty G < kL In ty + 1 then vWd (vS In ty G (rS In ty G)) wd else wd))) H
set_option maxHeartbeats 1000000 in
theorem c_L_at (l : Launch) {b9 L : Nat} {xs : Nat → Int32} (hL : L ≤ 260) (j : Nat) (hj : j < 1000) : Met l yL_at wsL_at ({ frames := 0, cells := 0, slots := 0, locals := 0 }) (va_Pc [.ref b9, .int (nI j)] (xPre b9 L xs)) (sQ (if j < L then xs j else 0)) 0 0 (fun _ => False) := by
  refine nv_met (cc := cL_at) (maxL := 2) (ret := (some .int)) (by decide) rfl (Nat.le_of_ble_eq_true rfl) ?_
  intro p0 e0 s m0 args below meth c0 Q hq hargs hnA hpre ls hl
  obtain ⟨hx, hb, hr, hts, hown, hlocks, hml⟩ := hnA
  have hX : va_X b9 L xs s s.heap := hpre
  have hl : lv_has ls 2 [(0, .ref b9), (1, .int (nI j))] := hl
  have hbl : b9 < s.heap.size := (Array.getElem?_eq_some_iff.mp hX.choose_spec.1).1
  have hS : va_S (fun _ => False) s.heap s.heap [] := va_S.rf
  refine lv_iload_n hx hb dL_at_0 rfl (lv_at hl 1 rfl) ?_
  refine lv_aload_n hx hb dL_at_1 rfl (lv_at hl 0 rfl) ?_
  refine va_slen hx hb hX hbl (fun h => h) hS dL_at_2 ?_
  refine nv_to L rfl ?_
  refine nv_icmp_ge (tgt := 12) hx hb dL_at_3 (by decide) (by omega) (by omega) (fun c1 => ?_) (fun c1 => ?_)
  · refine lv_iconst (v := nI 0) hx hb dL_at_12 (by decide) ?_
    exact nv_retS hq hx hb hr hlocks (nar_i _) (by rw [if_neg (by omega)]; exact nI_0) dL_at_13
  · refine lv_aload_n hx hb dL_at_6 rfl (lv_at hl 0 rfl) ?_
    refine lv_iload_n hx hb dL_at_7 rfl (lv_at hl 1 rfl) ?_
    refine va_sld hx hb hX hbl (fun h => h) hS (vp_in_nI (by omega) (by omega)) dL_at_8 ?_
    rw [nI_clamp (by omega)]
    refine lv_goto (tgt := 13) hx hb dL_at_9 (by decide) ?_
    exact nv_retS hq hx hb hr hlocks (nar_i _) (by rw [if_pos (by omega)]) dL_at_13
set_option maxHeartbeats 1000000 in
set_option maxRecDepth 100000 in
theorem c_L_runs (l : Launch) (hl9 : l.stackTraces = false) {D : va_G} {cI cC cD cR cB : ClassId} {sa : sA} {AD : Nat → Nat} {G Sv Hi In Le : Nat → Nat} {hs ch ty wy ln k : Nat} {ea ra wd : Int32} (hI : cInj AD) (hF : lF k G Sv Hi In Le hs ch ty wy ln) : vx_Met l yL_runs wsM_runs ({ frames := 10, cells := 1, slots := 6, locals := 226 }) (va_Pc [.ref (AD 0)] (lPre D [(cI, .int), (cC, .char), (cD, .object "DoorDialect$Door"), (cR, .object "DoorDialect$House")] nN sa (cRg AD 0 165) cB (cW D cI cC cD cR AD G Sv Hi In Le hs ch ty wy ln ea ra wd) [])) (gQ (rdV In ty G) (rdW D cI cC cD cR AD G Sv Hi In Le hs ch ty wy ln ea ra wd) (cRg AD 0 165)) noX 1 6 (cRg AD 0 165) := by
  refine nv_metH (cc := cL_runs) (maxL := 2) (ret := (some .int)) (hh := [(0, 4, 5, 77), (0, 4, 8, 75)]) (by decide) rfl (Nat.le_of_ble_eq_true rfl) ?_
  intro p0 e0 s m0 args below meth c0 Q hq hargs hnA htb hpre ls hl
  obtain ⟨hx, hb, hr, hts, hown, hlocks, hml⟩ := hnA
  obtain ⟨hP, hT, hX, htl⟩ := hpre
  have hown : s.vm.findClass RL = some m0.cls := hown
  have hl : lv_has ls 2 [(0, .ref (AD 0))] := hl
  have hS : va_S (cRg AD 0 165) s.heap s.heap [] := va_S.rf
  obtain ⟨bb, hG, h25, hbk, hk5, hch, hHb, hhs, hSvb, hty, hIn7, hln, hLe, hwy⟩ := id hF
  have hHw : ∀ j, j < ch → hAt Hi j 0 ≤ 8 ∧ hAt Hi j 1 ≤ 6 ∧ hAt Hi j 2 ≤ 5 := fun j hj => ⟨(hHb j hj).2.2.1, (hHb j hj).2.2.2.1, (hHb j hj).2.2.2.2.1⟩
  have hbb : bb + 1 < 2 ^ 20 := by omega
  have hb32 : bb + 32 < 2 ^ 20 := by omega
  refine lv_aload_n hx hb dL_runs_0 rfl (lv_at hl 0 rfl) ?_
  refine nv_kLX (vx_runV (As := []) (rest := []) ⟨hx, hb, hml, hown, hts⟩ (c_X6_read l hl9 (A := cRg AD 0 165) hG hI cRg_self hch hHw h25 hb32 hty hIn7) (cwV 0 hts (goodIn_m gL_runs_X6_read wsM_r) rfl rfl rfl (by decide +kernel) ⟨Nat.le_of_ble_eq_true rfl, Nat.le_of_ble_eq_true rfl⟩) (nt_pVn hT hS (fun _ h => h) hP (va_recv hT.1.1 hP.1 (ci := 8) (q0 := 0) rfl rfl)) rfl rfl hl.1 rfl (lv_room (Nat.le_of_ble_eq_true rfl)) dL_runs_1 ⟨Nat.le_of_ble_eq_true rfl, Nat.le_of_ble_eq_true rfl⟩) hS (fun _ h => h) (fun E ce q9 H1 locs1 h0 hE hP1 hK1 hS1 hcell hv9 hcl => ?_) (fun H1 locs1 h0 hP1 hK1 hS1 => ?_)
  · by_cases hm : mal In ty
    · rw [if_pos hm] at hE
      have hE : E = "java/lang/IllegalArgumentException" := hE
      subst hE
      refine vx_catch (own := RL) (name := "java/lang/IllegalArgumentException") hown (tableOf []) ⟨0, 4, 5, 77⟩ (tableOf [(0, 4, 8, 75)]) (by rw [htb]; rfl) (fun z hz => nomatch hz) (by decide) (by decide) (hts (.classLink RL 77 "java/lang/IllegalArgumentException") (by decide +kernel)) (va_Nw.use rfl (hT.2.2.2.2.2.1 _ (by decide +kernel))) hcell hv9 hcl ?_
      refine lv_astore_n (lv' := [(1, .ref q9), (0, .ref (AD 0))]) hx hb dL_runs_5 rfl hl (by decide) rfl (fun ls hl => ?_)
      refine lv_iconst (v := (-1)) hx hb dL_runs_6 (by decide) ?_
      exact nv_retLz hq hx hb hr hlocks (Nat.le_of_ble_eq_true rfl) (Nat.le_of_ble_eq_true rfl) (nar_i _) (by unfold rdV; rw [if_pos hm]) hS1 hP1 dL_runs_7
    · by_cases hr9 : rS In ty G < kL In ty + 1
      · rw [if_neg hm, if_pos hr9] at hE
        have hE : E = "java/lang/UnsupportedOperationException" := hE
        subst hE
        refine vx_catch (own := RL) (name := "java/lang/UnsupportedOperationException") hown (tableOf [(0, 4, 5, 77)]) ⟨0, 4, 8, 75⟩ (tableOf []) (by rw [htb]; rfl) (ps_cl (by decide) (by decide) (hts (.classLink RL 77 "java/lang/IllegalArgumentException") (by decide +kernel)) (hX.2.1 _ (by decide) _ (by decide) (by decide))) (by decide) (by decide) (hts (.classLink RL 75 "java/lang/UnsupportedOperationException") (by decide +kernel)) (va_Nw.use rfl (hT.2.2.2.2.2.1 _ (by decide +kernel))) hcell hv9 hcl ?_
        refine lv_astore_n (lv' := [(1, .ref q9), (0, .ref (AD 0))]) hx hb dL_runs_8 rfl hl (by decide) rfl (fun ls hl => ?_)
        refine lv_bipush (v := (-2)) hx hb dL_runs_9 (by decide) ?_
        exact nv_retLz hq hx hb hr hlocks (Nat.le_of_ble_eq_true rfl) (Nat.le_of_ble_eq_true rfl) (nar_i _) (by unfold rdV; rw [if_neg hm, if_pos hr9]) hS1 hP1 dL_runs_11
      · exact absurd (by rw [if_neg hm, if_neg hr9]) h0
  have hm : ¬ mal In ty := fun q => by rw [if_pos q] at h0; exact absurd h0 (by decide)
  have hr9 : ¬ rS In ty G < kL In ty + 1 := fun q => by rw [if_neg hm, if_pos q] at h0; exact absurd h0 (by decide)
  exact nv_retLz hq hx hb hr hlocks (Nat.le_of_ble_eq_true rfl) (Nat.le_of_ble_eq_true rfl) (nar_i _) (by unfold rdV; rw [if_neg hm, if_neg hr9, if_neg hm, if_neg hr9]) hS1 hP1 dL_runs_4
set_option maxHeartbeats 1000000 in
set_option maxRecDepth 100000 in
theorem c_L_put (l : Launch) (hl9 : l.stackTraces = false) {D : va_G} {cI cC cD cR cB : ClassId} {sa : sA} {AD : Nat → Nat} {G Sv Hi In Le : Nat → Nat} {hs ch ty wy ln k : Nat} {ea ra wd : Int32} (hI : cInj AD) {r v : Nat} {T : List Nat} (hTo : okT T) (h60 : ty + T.length ≤ 60) : vx_Met l yL_put wsL_put ({ frames := 7, cells := 60, slots := 360, locals := 106 }) (va_Pc [.ref (AD 0), .ref r] (lPre D [(cI, .int), (cC, .char), (cD, .object "DoorDialect$Door"), (cR, .object "DoorDialect$House")] nN sa (cRg AD 0 165) cB (cW D cI cC cD cR AD G Sv Hi In Le hs ch ty wy ln ea ra wd) [(r, v, T)])) (gQv (cW D cI cC cD cR AD G Sv Hi (wrL T In ty) Le hs ch (ty + T.length) wy ln ea ra wd) (cRg AD 0 165)) noX 60 360 (cRg AD 0 165) := by
  refine nv_metX (cc := cL_put) (maxL := 3) (ret := none) (by decide) rfl (Nat.le_of_ble_eq_true rfl) ?_
  intro p0 e0 s m0 args below meth c0 Q hq hargs hnA hout hpre ls hl
  obtain ⟨hx, hb, hr, hts, hown, hlocks, hml⟩ := hnA
  obtain ⟨hP, hT, hX, htl⟩ := hpre
  have hown : s.vm.findClass RL = some m0.cls := hown
  have hl : lv_has ls 3 [(0, .ref (AD 0)), (1, .ref r)] := hl
  have hS : va_S (cRg AD 0 165) s.heap s.heap [] := va_S.rf
  have hx1 : tx (cRg AD 0 165) (r, v, T) s s.heap := htl _ List.mem_cons_self
  have hO9 : va_O "java/lang/String" r (cRg AD 0 165) s s.heap := hx1.2.2.1
  refine lv_iconst (v := nI 0) hx hb dL_put_0 (by decide) ?_
  refine lv_istore_n (lv' := [(2, .int (nI 0)), (0, .ref (AD 0)), (1, .ref r)]) hx hb dL_put_1 rfl hl (by decide) rfl (fun ls hl => ?_)
  have hloop : ∀ (n j : Nat), j + n = T.length → ∀ (H : Heap) (locs : List Loc) (ls : Array Slot), (cW D cI cC cD cR AD G Sv Hi (wrL (T.take j) In ty) Le hs ch (ty + j) wy ln ea ra wd) H → va_S (cRg AD 0 165) s.heap H locs → lv_has ls 3 [(2, .int (nI j)), (0, .ref (AD 0)), (1, .ref r)] → W p0 l e0 ({ frames := 7, cells := 60, slots := 360, locals := 106 }) s m0 args below meth c0 H locs j (6 * j) Q (F0 m0 2 ls []) := by
    intro n
    induction n with
    | zero =>
      intro j hj H locs ls hP hS hl
      refine lv_iload_n hx hb dL_put_2 rfl (lv_at hl 0 rfl) ?_
      refine lv_aload_n hx hb dL_put_3 rfl (lv_at hl 2 rfl) ?_
      refine nv_kS (va_runV (As := []) (rest := [.int (nI j)]) ⟨hx, hb, hml, hown, hts⟩ (c_T_length l (A := cRg AD 0 165)) (cwV 0 hts gL_put_J0_length_8abf5 rfl rfl rfl (by decide +kernel) ⟨Nat.le_of_ble_eq_true rfl, Nat.le_of_ble_eq_true rfl⟩) (nx_pV hT hX.1 (tx1 (hx1.go hS (fun _ h => h))) hS (fun q h => h) trivial (va_Orecv hO9 hS)) rfl rfl hl.1 rfl (lv_room (Nat.le_of_ble_eq_true rfl)) dL_put_4 ⟨by show j + 0 ≤ 60; omega, by show 6 * j + 0 ≤ 360; omega⟩) ?_
      refine nv_icmp_ge (tgt := 26) hx hb dL_put_7 (by decide) (by omega) (by omega) (fun c1 => ?_) (fun c1 => absurd (show T.length ≤ j by omega) c1)
      have e9 : j = T.length := by omega
      subst e9
      rw [List.take_length] at hP
      exact nv_retLv hq hx hb hr hlocks (by omega) (by omega) hS hP dL_put_26
    | succ n ih =>
      intro j hj H locs ls hP hS hl
      refine lv_iload_n hx hb dL_put_2 rfl (lv_at hl 0 rfl) ?_
      refine lv_aload_n hx hb dL_put_3 rfl (lv_at hl 2 rfl) ?_
      refine nv_kS (va_runV (As := []) (rest := [.int (nI j)]) ⟨hx, hb, hml, hown, hts⟩ (c_T_length l (A := cRg AD 0 165)) (cwV 0 hts gL_put_J0_length_8abf5 rfl rfl rfl (by decide +kernel) ⟨Nat.le_of_ble_eq_true rfl, Nat.le_of_ble_eq_true rfl⟩) (nx_pV hT hX.1 (tx1 (hx1.go hS (fun _ h => h))) hS (fun q h => h) trivial (va_Orecv hO9 hS)) rfl rfl hl.1 rfl (lv_room (Nat.le_of_ble_eq_true rfl)) dL_put_4 ⟨by show j + 0 ≤ 60; omega, by show 6 * j + 0 ≤ 360; omega⟩) ?_
      refine nv_icmp_ge (tgt := 26) hx hb dL_put_7 (by decide) (by omega) (by omega) (fun c1 => absurd c1 (by omega)) (fun c1 => ?_)
      refine lv_aload_n hx hb dL_put_10 rfl (lv_at hl 1 rfl) ?_
      refine lv_aload_n hx hb dL_put_11 rfl (lv_at hl 2 rfl) ?_
      refine lv_iload_n hx hb dL_put_12 rfl (lv_at hl 0 rfl) ?_
      refine nv_kS (va_runV (As := [.int (nI j)]) (rest := [.ref (AD 0)]) ⟨hx, hb, hml, hown, hts⟩ (c_T_charAt l (A := cRg AD 0 165) j (by omega)) (cwV 1 hts gL_put_J0_charAt_5068e rfl rfl rfl (by decide +kernel) ⟨Nat.le_of_ble_eq_true rfl, Nat.le_of_ble_eq_true rfl⟩) (nx_pV hT hX.1 (tx1 (hx1.go hS (fun _ h => h))) hS (fun q h => h) trivial (va_Orecv hO9 hS)) rfl rfl hl.1 rfl (lv_room (Nat.le_of_ble_eq_true rfl)) dL_put_13 ⟨by show j + 0 ≤ 60; omega, by show 6 * j + 0 ≤ 360; omega⟩) ?_
      have hc := okT_at hTo (j := j) (by omega)
      refine nv_kLX (vx_runV (As := [.int (nI (T.getD j 0))]) (rest := []) ⟨hx, hb, hml, hown, hts⟩ (c_X6_append l hl9 (A := cRg AD 0 165) (b := 0) hI cRg_self (nI (T.getD j 0)) (by omega)) (cwV 1 hts gL_put_X6_append rfl rfl rfl (by decide +kernel) ⟨Nat.le_of_ble_eq_true rfl, Nat.le_of_ble_eq_true rfl⟩) (nt_pVn hT hS (fun _ h => h) hP (va_recv hT.1.1 hP.1 (ci := 8) (q0 := 0) rfl rfl)) rfl rfl hl.1 rfl (lv_room (Nat.le_of_ble_eq_true rfl)) dL_put_16 ⟨by show j + 1 ≤ 60; omega, by show 6 * j + 6 ≤ 360; omega⟩) hS (fun _ h => h) (fun E ce q9 H1 locs1 h0 hE hP1 hK1 hS1 hcell hv9 hcl => absurd (by rw [if_neg (by rw [bC_c hc.1 hc.2]; decide), if_neg (by rw [bC_c hc.1 hc.2]; omega)]) h0) (fun H locs h0 hP hK hS => ?_)
      rw [if_neg (by rw [bC_c hc.1 hc.2]; decide), if_neg (by rw [bC_c hc.1 hc.2]; omega), if_neg (by rw [bC_c hc.1 hc.2]; decide), if_neg (by rw [bC_c hc.1 hc.2]; omega), ap_c hc.1 hc.2] at hP
      refine lv_pop hx hb dL_put_19 rfl ?_
      refine lv_iinc (v := nI (j + 1)) (lv' := [(2, .int (nI (j + 1))), (0, .ref (AD 0)), (1, .ref r)]) hx hb dL_put_20 hl (k := 0) rfl (by show nI _ + Int32.ofInt 1 = _; exact nI_add _ 1) (by decide) rfl (fun ls hl => ?_)
      refine lv_goto (tgt := 2) hx hb dL_put_23 (by decide) ?_
      refine W.widen (k := j + 1) (n := 6 * (j + 1)) (by omega) (by omega) ?_
      refine ih (j + 1) (by omega) _ _ _ ?_ hS hl
      rw [take_snoc (by omega), wrL_snoc, List.length_take, Nat.min_eq_left (by omega)]
      exact hP
  exact hloop T.length 0 (by omega) _ _ _ hP hS hl
