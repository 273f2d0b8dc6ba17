theorem pl_next {F : Nat → Nat} {ty k : Nat} (hk : 0 < k) (hg : gd F ty (k - 1)) : hrx F ty (sn F ty k - 1) = nI 59 ∧ sn F ty k - 1 + 1 = sn F ty k := by
  obtain ⟨j, rfl⟩ : ∃ j, k = j + 1 := ⟨k - 1, by omega⟩
  exact ⟨hg.2, rfl⟩
theorem co_mal {F : Nat → Nat} {ty : Nat} {x : Int32} (hx : ¬ x = -1) : (if mal F ty then -1 else x) = -1 ↔ mal F ty := by
  by_cases h : mal F ty
  · rw [if_pos h]; exact ⟨fun _ => h, fun _ => rfl⟩
  · rw [if_neg h]; exact ⟨fun q => absurd q hx, fun q => absurd q h⟩
theorem nI_nm1 {k : Nat} (hk : k < 2 ^ 31) : ¬ nI k = -1 := fun q => by
  have h1 := congrArg Int32.toInt q
  rw [nI_toInt hk] at h1
  have h2 : (-1 : Int32).toInt = -1 := by decide
  omega
theorem fr_no {a n : Nat} (ha : a < 2 ^ 31) : (if a < n then nI a else -1) = (-1 : Int32) ↔ ¬ a < n := by
  by_cases h : a < n
  · rw [if_pos h]; exact ⟨fun q => absurd q (nI_nm1 ha), fun q => absurd h q⟩
  · rw [if_neg h]; exact ⟨fun _ => h, fun _ => rfl⟩
/-- what lies beside while orders are carried out: the past's ring with the house that it may take in -/
def cRJ (D : va_G) (cI cC cD cR : ClassId) (AD : Nat → Nat) (z : hS) (Sv Hi Le : Nat → Nat) (hs f ch ln : Nat) (H : Heap) : Prop :=
  cSv D cI cD AD hs Sv H ∧ va_P D vwCl (pw9 cR AD f ch) H ∧ cRing D cI cD AD Hi f ch H ∧ va_P D vwCl (hw cI cD (cAd AD (31 + 14 * ((f + ch) % 9))) z) H ∧ cWk D cI AD H ∧ cTx D cC AD Le ln H
theorem cOn_RJ {D : va_G} {cI cC cD cR : ClassId} {AD : Nat → Nat} {z : hS} {Sv Hi Le : Nat → Nat} {hs f ch ln : Nat} : cOn AD 15 162 (cRJ D cI cC cD cR AD z Sv Hi Le hs f ch ln) := fun A1 H H1 hn hK ⟨a, b, c, d, e, g⟩ =>
  ⟨cOn_Sv A1 H H1 (fun i x y => hn i (by omega) (by omega)) hK a, cOn_P (b := 29) (n := 2) cAt_2 A1 H H1 (fun i x y => hn i (by omega) (by omega)) hK b, cOn_Ring A1 H H1 (fun i x y => hn i (by omega) (by omega)) hK c,
   cOn_P (cAt_hw (31 + 14 * ((f + ch) % 9))) A1 H H1 (fun i x y => hn i (by omega) (by omega)) hK d, cOn_Wk A1 H H1 (fun i x y => hn i (by omega) (by omega)) hK e, cOn_Tx A1 H H1 (fun i x y => hn i (by omega) (by omega)) hK g⟩
theorem cRing.write {D : va_G} {cI cD : ClassId} {AD : Nat → Nat} {v : hS} {Hi : Nat → Nat} {f ch : Nat} {H H1 : Heap} (h : cRing D cI cD AD Hi f ch H) (hI : cInj AD) (hch : ch ≤ 8) (hf : f < 9) (hK : cFr (cR2 AD (31 + 14 * ((f + ch) % 9)) 1) H H1) (hv : hOk v) (hvP : va_P D vwCl (hw cI cD (cAd AD (31 + 14 * ((f + ch) % 9))) v) H1) : cRing D cI cD AD Hi f ch H1 := fun k hk => by
  by_cases e : k = (f + ch) % 9
  · subst e; exact ⟨v, hv, hvP, fun j hj e9 => absurd e9 (by omega)⟩
  · obtain ⟨u, a, b, c⟩ := h k hk
    exact ⟨u, a, (cOn_P (cAt_hw (31 + 14 * k))).keep2 hI hK b (by omega) (Or.inr (by omega)) (by omega) (by omega) (by decide), c⟩

set_option maxHeartbeats 1000000 in
set_option maxRecDepth 100000 in
theorem c_X6_firstRefused (l : Launch) {D : va_G} {cI cC cD cR : ClassId} {sa : sA} {A : Nat → Prop} {AD : Nat → Nat} {u : hS} {G : Nat → Nat} {b hs wy : Nat} {ea ra wd : Int32} {V : Nat → Int32} {In : Nat → Nat} {o pl ty vc : Nat} {J : Heap → Prop} (hR : hRel u G) (hk : hOk u) (hG : gWf b G) (hI : cInj AD) (hAA : ∀ i, i < 165 → A (AD i)) (hJ : cOn AD 15 162 J) (h25 : 25 ≤ b) (hb32 : b + 32 < 2 ^ 20) (hty : ty ≤ 60) (hS7 : ∀ i, i < ty → In i < 128) (hm : ¬ mal In ty) : Met l yX6_firstRefused wsX6_firstRefused ({ frames := 8, cells := 0, slots := 0, locals := 182 }) (va_Pc [.ref (AD 0), .int (nI (kL In ty + 1))] (tPre D [(cI, .int), (cC, .char), (cD, .object "DoorDialect$Door"), (cR, .object "DoorDialect$House")] nN sa A (cCy D cI cC cD AD u hs wy ea ra wd V In o pl ty vc J))) (gQ ((if rS In ty G < kL In ty + 1 then nI (rS In ty G) else -1)) ((fun H => ∃ u V o pl vc, hOk u ∧ (¬ rS In ty G < kL In ty + 1 → hRel u (GS In ty G (kL In ty + 1))) ∧ cCy D cI cC cD AD u hs (if rS In ty G < kL In ty + 1 then vWy (vS In ty G (rS In ty G)) wy else wy) ea ra (if rS In ty G < kL In ty + 1 then vWd (vS In ty G (rS In ty G)) wd else wd) V In o pl ty vc J H)) A) 0 0 A := by
  refine nv_met (cc := cX6_firstRefused) (maxL := 3) (ret := (some .int)) (by decide) rfl (Nat.le_of_ble_eq_true rfl) ?_
  intro p0 e0 s m0 args below meth c0 Q hq hargs hnA hpre ls hl
  obtain ⟨hx, hb, hr, hts, hown, hlocks, hml⟩ := hnA
  obtain ⟨hP, hT⟩ := hpre
  have hK := hT.1
  have hown : s.vm.findClass RX6 = some m0.cls := hown
  obtain ⟨hPo, hPh, hPi, hPj⟩ := hP
  have hPo : va_P D vwCl (cOb AD (hs) (wy) (wd) (ea) (ra)) s.heap := hPo
  have hPh : va_P D vwCl (hw cI cD (cAd AD 1) u) s.heap := hPh
  have hPi : va_P D vwCl (iw cI cC (cAd AD 162) (V) (In) (o) (pl) (ty) (vc)) s.heap := hPi
  have hl : lv_has ls 3 [(0, .ref (AD 0)), (1, .int (nI (kL In ty + 1)))] := hl
  have hS : va_S A s.heap s.heap [] := va_S.rf
  have in_X6 : ∀ w ∈ wsX60, w ∈ wsX6_firstRefused := by decide +kernel
  have fl_43 := hts (.fieldLink RX6 43 "DoorDialect" "input" "LDoorDialect$Input;") (by decide +kernel)
  have hkl := (kL_gd (F := In) hty).1
  refine lv_aload_n hx hb dX6_firstRefused_0 rfl (lv_at hl 0 rfl) ?_
  refine va_get (D := D) (ci := 8) (v := .ref ((cAd AD 162) 0)) (C := RX6) (T := TX6) (N := 11) hx hb hts in_X6 hown hK.1 hPo 0 rfl rfl 5 (by decide) fl_43 (fun _ h9 => h9) rfl dX6_firstRefused_1 ?_
  refine nv_kGv (va_runV (As := []) (rest := []) ⟨hx, hb, hml, hown, hts⟩ (c_X2_rewind (x := cAd AD 162) l (fun _ _ _ => cD_of (b := 162) (n := 3) hI cAt_3 (by decide))) (cwV 0 hts gX6_firstRefused_X2_rewind rfl rfl rfl (by decide +kernel) ⟨Nat.le_of_ble_eq_true rfl, Nat.le_of_ble_eq_true rfl⟩) (nt_pVn hT hS (cRg_A hAA (by decide)) hPi (cIn.recv hK.1 hPi)) rfl rfl hl.1 rfl (lv_room (Nat.le_of_ble_eq_true rfl)) dX6_firstRefused_4 ⟨Nat.zero_le _, Nat.zero_le _⟩) hS (cRg_A hAA (by decide)) (fun H locs hP1 hK1 hS => ?_)
  have hPi : va_P D vwCl (iw cI cC (cAd AD 162) (V) (In) (o) (0) (ty) (vc)) H := hP1
  have hPo := cOn_Ob.keep hI hK1 hPo (Or.inl (by decide)) (by decide) (by decide)
  have hPh := (cOn_P (cAt_hw 1)).keep hI hK1 hPh (Or.inl (by decide)) (by decide) (by decide)
  have hPj := hJ.keep hI hK1 hPj (Or.inl (by decide)) (by decide) (by decide)
  refine lv_iconst (v := nI 0) hx hb dX6_firstRefused_7 (by decide) ?_
  refine lv_istore_n (lv' := [(2, .int (nI 0)), (0, .ref (AD 0)), (1, .int (nI (kL In ty + 1)))]) hx hb dX6_firstRefused_8 rfl hl (by decide) rfl (fun ls hl => ?_)
  have hloop1 : ∀ (nn : Nat) (k : Nat), (k ≤ kL In ty + 1) → (∀ j, j < k → (vS In ty G j).1 = 0) → kL In ty + 1 - k < nn → ∀ (H : Heap) (locs : List Loc), (fun H => ∃ u V o vc, hRel u (GS In ty G k) ∧ hOk u ∧ cCy D cI cC cD AD u hs wy ea ra wd V In o (sn In ty k - 1) ty vc J H) H → va_S A s.heap H locs → ∀ (ls : Array Slot), lv_has ls 3 [(2, .int (nI k)), (0, .ref (AD 0)), (1, .int (nI (kL In ty + 1)))] → W p0 l e0 ({ frames := 8, cells := 0, slots := 0, locals := 182 }) s m0 args below meth c0 H locs 0 0 Q (F0 m0 9 ls []) := by
    intro nn9
    induction nn9 with
    | zero => intro k hk9 hr9 hn0 _ _ _ _ _ _; exact absurd hn0 (Nat.not_lt_zero _)
    | succ nn9 ih9 =>
      intro k hk9 hr9 hn9 H locs hP hS ls hl
      obtain ⟨u, V, o, vc, hR, hk, hPo, hPh, hPi, hPj⟩ := hP
      refine lv_iload_n hx hb dX6_firstRefused_9 rfl (lv_at hl 0 rfl) ?_
      refine lv_iload_n hx hb dX6_firstRefused_10 rfl (lv_at hl 2 rfl) ?_
      refine nv_icmp_ge (tgt := 53) hx hb dX6_firstRefused_11 (by decide) (by omega) (by omega) (fun c2 => ?_) (fun c2 => ?_)
      · have hrS : rS In ty G = kL In ty + 1 := fd_none (fun j hj q => q (hr9 j (by omega)))
        refine lv_iconst (v := (-1)) hx hb dX6_firstRefused_53 (by decide) ?_
        exact nv_retG hq hx hb hr hlocks (nar_i _) (by rw [hrS, if_neg (Nat.lt_irrefl _)]) hS (by rw [hrS, if_neg (Nat.lt_irrefl _), if_neg (Nat.lt_irrefl _)]; exact ⟨u, _, _, _, _, hk, fun _ => by rw [show k = kL In ty + 1 by omega] at hR; exact hR, hPo, hPh, hPi, hPj⟩) dX6_firstRefused_54
      · have hsn := sn_ok (F := In) (ty := ty) (n := k) (fun j hj => (kL_gd (F := In) hty).2.1 j (by omega))
        have h0 := oE_all (F := In) (ty := ty) hm hty k (Nat.lt_of_not_le c2)
        skip
        refine lv_iload_n hx hb dX6_firstRefused_14 rfl (lv_at hl 0 rfl) ?_
        refine nv_if_le (tgt := 28) hx hb dX6_firstRefused_15 (by decide) (by omega) (fun c3 => ?_) (fun c3 => ?_)
        · have hPi : va_P D vwCl (iw cI cC (cAd AD 162) (V) (In) (o) (sn In ty k) (ty) (vc)) H := by rw [show sn In ty k = sn In ty k - 1 from by rw [show k = 0 by omega]; rfl]; exact hPi
          refine lv_aload_n hx hb dX6_firstRefused_28 rfl (lv_at hl 1 rfl) ?_
          refine va_get (D := D) (ci := 8) (v := .ref ((cAd AD 162) 0)) (C := RX6) (T := TX6) (N := 11) hx hb hts in_X6 hown hK.1 hPo 0 rfl rfl 5 (by decide) fl_43 (fun _ h9 => h9) rfl dX6_firstRefused_29 ?_
          refine nv_kG (va_runV (As := []) (rest := []) ⟨hx, hb, hml, hown, hts⟩ (c_X2_takeOrder (x := cAd AD 162) l (fun _ _ _ => cD_of (b := 162) (n := 3) hI cAt_3 (by decide)) hty hS7 (by omega)) (cwV 0 hts gX6_firstRefused_X2_takeOrder rfl rfl rfl (by decide +kernel) ⟨Nat.le_of_ble_eq_true rfl, Nat.le_of_ble_eq_true rfl⟩) (nt_pVn hT hS (cRg_A hAA (by decide)) hPi (cIn.recv hK.1 hPi)) rfl rfl hl.1 rfl (lv_room (Nat.le_of_ble_eq_true rfl)) dX6_firstRefused_32 ⟨Nat.zero_le _, Nat.zero_le _⟩) hS (cRg_A hAA (by decide)) (fun H locs hP1 hK1 hS => ?_)
          obtain ⟨V, o, vc, hvs, hPi⟩ := hP1
          have hPi : va_P D vwCl (iw cI cC (cAd AD 162) (V) (In) (o) ((oE In ty (sn In ty k)).1) (ty) (vc)) H := hPi
          have hPo := cOn_Ob.keep hI hK1 hPo (Or.inl (by decide)) (by decide) (by decide)
          have hPh := (cOn_P (cAt_hw 1)).keep hI hK1 hPh (Or.inl (by decide)) (by decide) (by decide)
          have hPj := hJ.keep hI hK1 hPj (Or.inl (by decide)) (by decide) (by decide)
          refine nv_ifb_eq (tgt := 45) hx hb dX6_firstRefused_35 (by decide) (fun c4 => ?_) (fun c4 => ?_)
          · exact absurd h0 c4
          · refine lv_aload_n hx hb dX6_firstRefused_38 rfl (lv_at hl 1 rfl) ?_
            have hPi : va_P D vwCl (iw cI cC (cAd AD 162) (V) (In) ((kd In ty (sn In ty k))) ((oE In ty (sn In ty k)).1) (ty) (vc)) H := by rw [(hvs h0).1] at hPi; exact hPi
            have hGk := gWf_GS hm hty hG h25 hb32 k (by omega)
            refine nv_kG (va_runV (As := []) (rest := []) ⟨hx, hb, hml, hown, hts⟩ (c_X6_carryOut l (A := cRg AD 0 165) hR hk hGk hI cRg_self hJ (by omega) (by omega) (kd In ty (sn In ty k)) (oE_ok h0).1 (oV In ty (sn In ty k)) (fun i hi => (hvs h0).2 i hi) (fun q => rdO_z (T := fun _ => 0) (k := 0) h0 q)) (cwV 0 hts gX6_firstRefused_X6_carryOut rfl rfl rfl (by decide +kernel) ⟨Nat.le_of_ble_eq_true rfl, Nat.le_of_ble_eq_true rfl⟩) (nt_pVn hT hS (cRg_A hAA (by decide)) ⟨hPo, hPh, hPi, hPj⟩ (va_recv hK.1 hPo (ci := 8) (q0 := 0) rfl rfl)) rfl rfl hl.1 rfl (lv_room (Nat.le_of_ble_eq_true rfl)) dX6_firstRefused_39 ⟨Nat.zero_le _, Nat.zero_le _⟩) hS (cRg_A hAA (by decide)) (fun H locs hP1 hK1 hS => ?_)
            obtain ⟨u, hR, hk, hPo, hPh, hPi, hPj⟩ := hP1
            have hR : hRel u (GS In ty G (k + 1)) := hR
            have hPo : va_P D vwCl (cOb AD (hs) (vWy (vO In ty (sn In ty k) (GS In ty G k)) wy) (vWd (vO In ty (sn In ty k) (GS In ty G k)) wd) (ea) (ra)) H := hPo
            refine nv_to (fC (flO (kd In ty (sn In ty k))) (vS In ty G k).1) rfl ?_
            have hfc := fC_ok (n := (vS In ty G k).1) (flO_ok (kd In ty (sn In ty k))) (vOrd_l _ _ _ _ _ _ _)
            refine nv_if_eq (tgt := 47) hx hb dX6_firstRefused_42 (by decide) (by omega) (fun c5 => ?_) (fun c5 => ?_)
            · have hv0 : (vS In ty G k).1 = 0 := hfc.2.1.mp c5
              have hPo : va_P D vwCl (cOb AD (hs) (wy) (wd) (ea) (ra)) H := by rw [vWy_0 (vO_w hv0), vWd_0 (vO_w hv0)] at hPo; exact hPo
              refine lv_iinc (v := nI (k + 1)) (lv' := [(2, .int (nI (k + 1))), (0, .ref (AD 0)), (1, .int (nI (kL In ty + 1)))]) hx hb dX6_firstRefused_47 hl (k := 0) rfl (by show nI _ + Int32.ofInt 1 = _; exact nI_add _ 1) (by decide) rfl (fun ls hl => ?_)
              refine lv_goto (tgt := 9) hx hb dX6_firstRefused_50 (by decide) ?_
              exact ih9  (k + 1) ((by omega)) ((fun j hj => by rcases (show j < k ∨ j = k by omega) with h | h; exact hr9 j h; subst h; exact hv0)) (by omega) _ _ ⟨u, V, _, vc, hR, hk, hPo, hPh, hPi, hPj⟩ hS ls (lv_sub hl [0, 1, 2] rfl)
            · have hv1 : ¬ (vS In ty G k).1 = 0 := fun q => c5 (hfc.2.1.mpr q)
              have hrS : rS In ty G = k := fd_some (fun j hj q => q (hr9 j hj)) hv1 (by omega)
              refine lv_iload_n hx hb dX6_firstRefused_45 rfl (lv_at hl 0 rfl) ?_
              exact nv_retG hq hx hb hr hlocks (nar_i _) (by rw [hrS, if_pos (by omega)]) hS (by rw [hrS, if_pos (show k < kL In ty + 1 by omega), if_pos (show k < kL In ty + 1 by omega)]; exact ⟨u, _, _, _, _, hk, fun q => absurd (show k < kL In ty + 1 by omega) q, hPo, hPh, hPi, hPj⟩) dX6_firstRefused_46
        · have hgd := pl_next (F := In) (ty := ty) (k := k) (by omega) ((kL_gd (F := In) hty).2.1 (k - 1) (by omega))
          refine lv_aload_n hx hb dX6_firstRefused_18 rfl (lv_at hl 1 rfl) ?_
          refine va_get (D := D) (ci := 8) (v := .ref ((cAd AD 162) 0)) (C := RX6) (T := TX6) (N := 11) hx hb hts in_X6 hown hK.1 hPo 0 rfl rfl 5 (by decide) fl_43 (fun _ h9 => h9) rfl dX6_firstRefused_19 ?_
          refine lv_bipush (v := nI 59) hx hb dX6_firstRefused_22 (by decide) ?_
          refine nv_kG (va_runV (As := [.int (nI 59)]) (rest := []) ⟨hx, hb, hml, hown, hts⟩ (c_X2_takeSign (x := cAd AD 162) l (fun _ _ _ => cD_of (b := 162) (n := 3) hI cAt_3 (by decide)) hty hS7 (by omega) 59 (by decide)) (cwV 1 hts gX6_firstRefused_X2_takeSign rfl rfl rfl (by decide +kernel) ⟨Nat.le_of_ble_eq_true rfl, Nat.le_of_ble_eq_true rfl⟩) (nt_pVn hT hS (cRg_A hAA (by decide)) hPi (cIn.recv hK.1 hPi)) rfl rfl hl.1 rfl (lv_room (Nat.le_of_ble_eq_true rfl)) dX6_firstRefused_24 ⟨Nat.zero_le _, Nat.zero_le _⟩) hS (cRg_A hAA (by decide)) (fun H locs hP1 hK1 hS => ?_)
          have hPi : va_P D vwCl (iw cI cC (cAd AD 162) (V) (In) (o) (sn In ty k) (ty) (vc)) H := by rw [if_pos hgd.1, hgd.2] at hP1; exact hP1
          have hPo := cOn_Ob.keep hI hK1 hPo (Or.inl (by decide)) (by decide) (by decide)
          have hPh := (cOn_P (cAt_hw 1)).keep hI hK1 hPh (Or.inl (by decide)) (by decide) (by decide)
          have hPj := hJ.keep hI hK1 hPj (Or.inl (by decide)) (by decide) (by decide)
          refine lv_pop hx hb dX6_firstRefused_27 rfl ?_
          refine lv_aload_n hx hb dX6_firstRefused_28 rfl (lv_at hl 1 rfl) ?_
          refine va_get (D := D) (ci := 8) (v := .ref ((cAd AD 162) 0)) (C := RX6) (T := TX6) (N := 11) hx hb hts in_X6 hown hK.1 hPo 0 rfl rfl 5 (by decide) fl_43 (fun _ h9 => h9) rfl dX6_firstRefused_29 ?_
          refine nv_kG (va_runV (As := []) (rest := []) ⟨hx, hb, hml, hown, hts⟩ (c_X2_takeOrder (x := cAd AD 162) l (fun _ _ _ => cD_of (b := 162) (n := 3) hI cAt_3 (by decide)) hty hS7 (by omega)) (cwV 0 hts gX6_firstRefused_X2_takeOrder rfl rfl rfl (by decide +kernel) ⟨Nat.le_of_ble_eq_true rfl, Nat.le_of_ble_eq_true rfl⟩) (nt_pVn hT hS (cRg_A hAA (by decide)) hPi (cIn.recv hK.1 hPi)) rfl rfl hl.1 rfl (lv_room (Nat.le_of_ble_eq_true rfl)) dX6_firstRefused_32 ⟨Nat.zero_le _, Nat.zero_le _⟩) hS (cRg_A hAA (by decide)) (fun H locs hP1 hK1 hS => ?_)
          obtain ⟨V, o, vc, hvs, hPi⟩ := hP1
          have hPi : va_P D vwCl (iw cI cC (cAd AD 162) (V) (In) (o) ((oE In ty (sn In ty k)).1) (ty) (vc)) H := hPi
          have hPo := cOn_Ob.keep hI hK1 hPo (Or.inl (by decide)) (by decide) (by decide)
          have hPh := (cOn_P (cAt_hw 1)).keep hI hK1 hPh (Or.inl (by decide)) (by decide) (by decide)
          have hPj := hJ.keep hI hK1 hPj (Or.inl (by decide)) (by decide) (by decide)
          refine nv_ifb_eq (tgt := 45) hx hb dX6_firstRefused_35 (by decide) (fun c6 => ?_) (fun c6 => ?_)
          · exact absurd h0 c6
          · refine lv_aload_n hx hb dX6_firstRefused_38 rfl (lv_at hl 1 rfl) ?_
            have hPi : va_P D vwCl (iw cI cC (cAd AD 162) (V) (In) ((kd In ty (sn In ty k))) ((oE In ty (sn In ty k)).1) (ty) (vc)) H := by rw [(hvs h0).1] at hPi; exact hPi
            have hGk := gWf_GS hm hty hG h25 hb32 k (by omega)
            refine nv_kG (va_runV (As := []) (rest := []) ⟨hx, hb, hml, hown, hts⟩ (c_X6_carryOut l (A := cRg AD 0 165) hR hk hGk hI cRg_self hJ (by omega) (by omega) (kd In ty (sn In ty k)) (oE_ok h0).1 (oV In ty (sn In ty k)) (fun i hi => (hvs h0).2 i hi) (fun q => rdO_z (T := fun _ => 0) (k := 0) h0 q)) (cwV 0 hts gX6_firstRefused_X6_carryOut rfl rfl rfl (by decide +kernel) ⟨Nat.le_of_ble_eq_true rfl, Nat.le_of_ble_eq_true rfl⟩) (nt_pVn hT hS (cRg_A hAA (by decide)) ⟨hPo, hPh, hPi, hPj⟩ (va_recv hK.1 hPo (ci := 8) (q0 := 0) rfl rfl)) rfl rfl hl.1 rfl (lv_room (Nat.le_of_ble_eq_true rfl)) dX6_firstRefused_39 ⟨Nat.zero_le _, Nat.zero_le _⟩) hS (cRg_A hAA (by decide)) (fun H locs hP1 hK1 hS => ?_)
            obtain ⟨u, hR, hk, hPo, hPh, hPi, hPj⟩ := hP1
            have hR : hRel u (GS In ty G (k + 1)) := hR
            have hPo : va_P D vwCl (cOb AD (hs) (vWy (vO In ty (sn In ty k) (GS In ty G k)) wy) (vWd (vO In ty (sn In ty k) (GS In ty G k)) wd) (ea) (ra)) H := hPo
            refine nv_to (fC (flO (kd In ty (sn In ty k))) (vS In ty G k).1) rfl ?_
            have hfc := fC_ok (n := (vS In ty G k).1) (flO_ok (kd In ty (sn In ty k))) (vOrd_l _ _ _ _ _ _ _)
            refine nv_if_eq (tgt := 47) hx hb dX6_firstRefused_42 (by decide) (by omega) (fun c7 => ?_) (fun c7 => ?_)
            · have hv0 : (vS In ty G k).1 = 0 := hfc.2.1.mp c7
              have hPo : va_P D vwCl (cOb AD (hs) (wy) (wd) (ea) (ra)) H := by rw [vWy_0 (vO_w hv0), vWd_0 (vO_w hv0)] at hPo; exact hPo
              refine lv_iinc (v := nI (k + 1)) (lv' := [(2, .int (nI (k + 1))), (0, .ref (AD 0)), (1, .int (nI (kL In ty + 1)))]) hx hb dX6_firstRefused_47 hl (k := 0) rfl (by show nI _ + Int32.ofInt 1 = _; exact nI_add _ 1) (by decide) rfl (fun ls hl => ?_)
              refine lv_goto (tgt := 9) hx hb dX6_firstRefused_50 (by decide) ?_
              exact ih9  (k + 1) ((by omega)) ((fun j hj => by rcases (show j < k ∨ j = k by omega) with h | h; exact hr9 j h; subst h; exact hv0)) (by omega) _ _ ⟨u, V, _, vc, hR, hk, hPo, hPh, hPi, hPj⟩ hS ls (lv_sub hl [0, 1, 2] rfl)
            · have hv1 : ¬ (vS In ty G k).1 = 0 := fun q => c7 (hfc.2.1.mpr q)
              have hrS : rS In ty G = k := fd_some (fun j hj q => q (hr9 j hj)) hv1 (by omega)
              refine lv_iload_n hx hb dX6_firstRefused_45 rfl (lv_at hl 0 rfl) ?_
              exact nv_retG hq hx hb hr hlocks (nar_i _) (by rw [hrS, if_pos (by omega)]) hS (by rw [hrS, if_pos (show k < kL In ty + 1 by omega), if_pos (show k < kL In ty + 1 by omega)]; exact ⟨u, _, _, _, _, hk, fun q => absurd (show k < kL In ty + 1 by omega) q, hPo, hPh, hPi, hPj⟩) dX6_firstRefused_46
  exact hloop1 _ 0 ((Nat.zero_le _)) ((fun j hj => absurd hj (Nat.not_lt_zero j))) (Nat.lt_succ_self _) _ _ ⟨u, V, o, vc, hR, hk, hPo, hPh, hPi, hPj⟩ hS ls (lv_sub hl [0, 1, 2] rfl)

set_option maxHeartbeats 1000000 in
set_option maxRecDepth 100000 in
theorem c_X6_read (l : Launch) (hl9 : l.stackTraces = false) {D : va_G} {cI cC cD cR : ClassId} {sa : sA} {A : Nat → Prop} {AD : Nat → Nat} {G Sv Hi In Le : Nat → Nat} {b hs ch ty wy ln : Nat} {ea ra wd : Int32} (hG : gWf b G) (hI : cInj AD) (hAA : ∀ i, i < 165 → A (AD i)) (hch : ch ≤ 8) (hHw : ∀ j, j < ch → hAt Hi j 0 ≤ 8 ∧ hAt Hi j 1 ≤ 6 ∧ hAt Hi j 2 ≤ 5) (h25 : 25 ≤ b) (hb32 : b + 32 < 2 ^ 20) (hty : ty ≤ 60) (hS7 : ∀ i, i < ty → In i < 128) : vx_Met l yX6_read wsX6_read ({ frames := 9, cells := 1, slots := 6, locals := 204 }) (va_Pc [.ref (AD 0)] (tPre D [(cI, .int), (cC, .char), (cD, .object "DoorDialect$Door"), (cR, .object "DoorDialect$House")] nN sa A (cW D cI cC cD cR AD G Sv Hi In Le hs ch ty wy ln ea ra wd))) (gQX ((if mal In ty then 1 else (if rS In ty G < kL In ty + 1 then 2 else 0))) ((if mal In ty then 0 else (if rS In ty G < kL In ty + 1 then 0 else nI (kL In ty + 1)))) (cW D cI cC cD cR AD ((if mal In ty then G else (if rS In ty G < kL In ty + 1 then G else (GS In ty G (kL In ty + 1))))) Sv ((if mal In ty then Hi else (if rS In ty G < kL In ty + 1 then Hi else (hPush Hi G ch)))) In Le hs ((if mal In ty then ch else (if rS In ty G < kL In ty + 1 then ch else (if ch = 8 then 8 else ch + 1)))) 0 ((if mal In ty then wy else (if rS In ty G < kL In ty + 1 then vWy (vS In ty G (rS In ty G)) wy else wy))) ln ((if mal In ty then nI (oE In ty (sn In ty (kL In ty))).1 else ea)) ((if mal In ty then ra else (if rS In ty G < kL In ty + 1 then nI (rS In ty G) else ra))) ((if mal In ty then wd else (if rS In ty G < kL In ty + 1 then vWd (vS In ty G (rS In ty G)) wd else wd)))) A) (xQ ["java/lang/IllegalArgumentException", "java/lang/UnsupportedOperationException"] ((if mal In ty then 1 else (if rS In ty G < kL In ty + 1 then 2 else 0))) (cW D cI cC cD cR AD ((if mal In ty then G else (if rS In ty G < kL In ty + 1 then G else (GS In ty G (kL In ty + 1))))) Sv ((if mal In ty then Hi else (if rS In ty G < kL In ty + 1 then Hi else (hPush Hi G ch)))) In Le hs ((if mal In ty then ch else (if rS In ty G < kL In ty + 1 then ch else (if ch = 8 then 8 else ch + 1)))) 0 ((if mal In ty then wy else (if rS In ty G < kL In ty + 1 then vWy (vS In ty G (rS In ty G)) wy else wy))) ln ((if mal In ty then nI (oE In ty (sn In ty (kL In ty))).1 else ea)) ((if mal In ty then ra else (if rS In ty G < kL In ty + 1 then nI (rS In ty G) else ra))) ((if mal In ty then wd else (if rS In ty G < kL In ty + 1 then vWd (vS In ty G (rS In ty G)) wd else wd)))) A) 1 6 A := by
  refine nv_metX (cc := cX6_read) (maxL := 3) (ret := (some .int)) (by decide) rfl (Nat.le_of_ble_eq_true rfl) ?_
  intro p0 e0 s m0 args below meth c0 Q hq hargs hnA hout hpre ls hl
  obtain ⟨hx, hb, hr, hts, hown, hlocks, hml⟩ := hnA
  obtain ⟨hP, hT⟩ := hpre
  have hK := hT.1
  have hown : s.vm.findClass RX6 = some m0.cls := hown
  obtain ⟨hPo, ⟨u, hR, hk, hPh⟩, hPi, hPs, hPp, hPw, hPt⟩ := hP
  have hPo : va_P D vwCl (cOb AD (hs) (wy) (wd) (ea) (ra)) s.heap := hPo
  have hPh : va_P D vwCl (hw cI cD (cAd AD 1) u) s.heap := hPh
  obtain ⟨f, hf, hPq, hring⟩ := hPp
  have hring : cRing D cI cD AD Hi f ch s.heap := hring
  have hPq : va_P D vwCl (pw9 cR AD f ch) s.heap := hPq
  obtain ⟨V9, SA9, o9, pl9, vc9, hSA9, hPi⟩ := hPi
  rw [hSA9] at hPi
  have hl : lv_has ls 3 [(0, .ref (AD 0))] := hl
  have hS : va_S A s.heap s.heap [] := va_S.rf
  have in_X2 : ∀ w ∈ wsX20, w ∈ wsX6_read := by decide +kernel
  have in_X6 : ∀ w ∈ wsX60, w ∈ wsX6_read := by decide +kernel
  have fl_10 := hts (.fieldLink RX6 10 "DoorDialect" "house" "LDoorDialect$House;") (by decide +kernel)
  have fl_22 := hts (.fieldLink RX6 22 "DoorDialect" "past" "LDoorDialect$Past;") (by decide +kernel)
  have fl_43 := hts (.fieldLink RX6 43 "DoorDialect" "input" "LDoorDialect$Input;") (by decide +kernel)
  have fl_58 := hts (.fieldLink RX6 58 "DoorDialect" "malformedAt" "I") (by decide +kernel)
  have fl_61 := hts (.fieldLink RX6 61 "DoorDialect" "refusedOrder" "I") (by decide +kernel)
  have fl_369 := hts (.fieldLink RX6 369 "DoorDialect$Input" "place" "I") (by decide +kernel)
  obtain ⟨g_b, g_k, g_0, g_1, g_2, g_e, g_d, g_t, g_y, g_s, g_h⟩ := id hG
  have hkl := (kL_gd (F := In) hty).1
  have hrs9 : rS In ty G ≤ kL In ty + 1 := fd_le _ _
  refine lv_aload_n hx hb dX6_read_0 rfl (lv_at hl 0 rfl) ?_
  refine va_get (D := D) (ci := 8) (v := .ref ((cAd AD 162) 0)) (C := RX6) (T := TX6) (N := 11) hx hb hts in_X6 hown hK.1 hPo 0 rfl rfl 5 (by decide) fl_43 (fun _ h9 => h9) rfl dX6_read_1 ?_
  refine nv_kG (va_runV (As := []) (rest := []) ⟨hx, hb, hml, hown, hts⟩ (c_X2_countOrders (x := cAd AD 162) l (fun _ _ _ => cD_of (b := 162) (n := 3) hI cAt_3 (by decide)) hty hS7) (cwV 0 hts gX6_read_X2_countOrders rfl rfl rfl (by decide +kernel) ⟨Nat.le_of_ble_eq_true rfl, Nat.le_of_ble_eq_true rfl⟩) (nt_pVn hT hS (cRg_A hAA (by decide)) hPi (cIn.recv hK.1 hPi)) rfl rfl hl.1 rfl (lv_room (Nat.le_of_ble_eq_true rfl)) dX6_read_4 ⟨Nat.le_of_ble_eq_true rfl, Nat.le_of_ble_eq_true rfl⟩) hS (cRg_A hAA (by decide)) (fun H locs hP1 hK1 hS => ?_)
  obtain ⟨V9, o9, vc9, hPi⟩ := hP1
  have hPi : va_P D vwCl (iw cI cC (cAd AD 162) (V9) (In) (o9) ((oL In ty).1) (ty) (vc9)) H := hPi
  have hPo := cOn_Ob.keep hI hK1 hPo (Or.inl (by decide)) (by decide) (by decide)
  have hPh := (cOn_P (cAt_hw 1)).keep hI hK1 hPh (Or.inl (by decide)) (by decide) (by decide)
  have hPs := cOn_Sv.keep hI hK1 hPs (Or.inl (by decide)) (by decide) (by decide)
  have hPq := (cOn_P (b := 29) (n := 2) cAt_2).keep hI hK1 hPq (Or.inl (by decide)) (by decide) (by decide)
  have hring := cOn_Ring.keep hI hK1 hring (Or.inl (by decide)) (by decide) (by decide)
  have hPw := cOn_Wk.keep hI hK1 hPw (Or.inl (by decide)) (by decide) (by decide)
  have hPt := cOn_Tx.keep hI hK1 hPt (Or.inl (by decide)) (by decide) (by decide)
  refine lv_istore_n (lv' := [(1, .int ((if mal In ty then -1 else nI (kL In ty + 1)))), (0, .ref (AD 0))]) hx hb dX6_read_7 rfl hl (by decide) rfl (fun ls hl => ?_)
  refine lv_iload_n hx hb dX6_read_8 rfl (lv_at hl 0 rfl) ?_
  refine lv_iconst (v := (-1)) hx hb dX6_read_9 (by decide) ?_
  refine lv_icmp_ne (tgt := 42) hx hb dX6_read_10 (by decide) (fun c1 => ?_) (fun c1 => ?_)
  · have hm : ¬ mal In ty := fun q => c1 ((co_mal (nI_nm1 (by omega))).mpr q)
    rw [if_neg hm] at hl
    refine lv_aload_n hx hb dX6_read_42 rfl (lv_at hl 1 rfl) ?_
    refine va_get (D := D) (ci := 8) (v := .ref ((cAd AD 29) 0)) (C := RX6) (T := TX6) (N := 11) hx hb hts in_X6 hown hK.1 hPo 0 rfl rfl 2 (by decide) fl_22 (fun _ h9 => h9) rfl dX6_read_43 ?_
    refine lv_aload_n hx hb dX6_read_46 rfl (lv_at hl 1 rfl) ?_
    refine va_get (D := D) (ci := 8) (v := .ref ((cAd AD 1) 0)) (C := RX6) (T := TX6) (N := 11) hx hb hts in_X6 hown hK.1 hPo 0 rfl rfl 0 (by decide) fl_10 (fun _ h9 => h9) rfl dX6_read_47 ?_
    obtain ⟨z, hzk, hPz, _⟩ := hring ((f + ch) % 9) (by omega)
    have hR0 := hR
    have hk0 := hk
    refine nv_kGv (va_runV (As := [.ref ((cAd AD 1) 0)]) (rest := []) ⟨hx, hb, hml, hown, hts⟩ (c_X3_stage l (fun _ => cD_two hI (a := (31 + 14 * ((f + ch) % 9))) (b := 1) (by omega) (by decide) (Or.inr (by omega))) hf hch hk) (cwV 1 hts gX6_read_X3_stage rfl rfl rfl (by decide +kernel) ⟨Nat.le_of_ble_eq_true rfl, Nat.le_of_ble_eq_true rfl⟩) (nt_pVn hT hS (cR2_A hAA (by omega) (by decide)) ⟨hPq, va_P.app hPz hPh⟩ (va_recv hK.1 hPq (ci := 5) (q0 := 0) rfl rfl)) rfl rfl hl.1 rfl (lv_room (Nat.le_of_ble_eq_true rfl)) dX6_read_50 ⟨Nat.le_of_ble_eq_true rfl, Nat.le_of_ble_eq_true rfl⟩) hS (cR2_A hAA (by omega) (by decide)) (fun H locs hP1 hK1 hS => ?_)
    obtain ⟨z1, hz1, hPzh⟩ := hP1
    have hPz := va_P.left hPzh
    have hPh := va_P.right hPzh
    have hz1k : hOk z1 := hz1.ok hk
    have hz1R : hRel z1 G := hz1.rel hR g_0 g_1 g_2
    have hring := hring.write hI hch hf hK1 hz1k hPz
    have hPo := cOn_Ob.keep2 (a := (31 + 14 * ((f + ch) % 9))) (b := 1) hI hK1 hPo (Or.inl (by omega)) (Or.inl (by decide)) (by decide) (by omega) (by decide)
    have hPs := cOn_Sv.keep2 (a := (31 + 14 * ((f + ch) % 9))) (b := 1) hI hK1 hPs (Or.inl (by omega)) (Or.inr (by decide)) (by decide) (by omega) (by decide)
    have hPq := (cOn_P (b := 29) (n := 2) cAt_2).keep2 (a := (31 + 14 * ((f + ch) % 9))) (b := 1) hI hK1 hPq (Or.inl (by omega)) (Or.inr (by decide)) (by decide) (by omega) (by decide)
    have hPw := cOn_Wk.keep2 (a := (31 + 14 * ((f + ch) % 9))) (b := 1) hI hK1 hPw (Or.inr (by omega)) (Or.inr (by decide)) (by decide) (by omega) (by decide)
    have hPt := cOn_Tx.keep2 (a := (31 + 14 * ((f + ch) % 9))) (b := 1) hI hK1 hPt (Or.inr (by omega)) (Or.inr (by decide)) (by decide) (by omega) (by decide)
    have hPi := cOn_iw.keep2 (a := (31 + 14 * ((f + ch) % 9))) (b := 1) hI hK1 hPi (Or.inr (by omega)) (Or.inr (by decide)) (by decide) (by omega) (by decide)
    refine lv_aload_n hx hb dX6_read_53 rfl (lv_at hl 1 rfl) ?_
    refine lv_iload_n hx hb dX6_read_54 rfl (lv_at hl 0 rfl) ?_
    refine nv_kG (va_runV (As := [.int (nI (kL In ty + 1))]) (rest := []) ⟨hx, hb, hml, hown, hts⟩ (c_X6_firstRefused l (A := cRg AD 0 165) (J := (cRJ D cI cC cD cR AD z1 Sv Hi Le hs f ch ln)) hR hk hG hI cRg_self cOn_RJ h25 hb32 hty hS7 hm) (cwV 1 hts gX6_read_X6_firstRefused rfl rfl rfl (by decide +kernel) ⟨Nat.le_of_ble_eq_true rfl, Nat.le_of_ble_eq_true rfl⟩) (nt_pVn hT hS (cRg_A hAA (by decide)) ⟨hPo, hPh, hPi, hPs, hPq, hring, hPz, hPw, hPt⟩ (va_recv hK.1 hPo (ci := 8) (q0 := 0) rfl rfl)) rfl rfl hl.1 rfl (lv_room (Nat.le_of_ble_eq_true rfl)) dX6_read_55 ⟨Nat.le_of_ble_eq_true rfl, Nat.le_of_ble_eq_true rfl⟩) hS (cRg_A hAA (by decide)) (fun H locs hP1 hK1 hS => ?_)
    obtain ⟨u, V9, o9, pl9, vc9, hk, hR9, hPo, hPh, hPi, hPs, hPq, hring, hPz, hPw, hPt⟩ := hP1
    have hPo : va_P D vwCl (cOb AD (hs) (if rS In ty G < kL In ty + 1 then vWy (vS In ty G (rS In ty G)) wy else wy) (if rS In ty G < kL In ty + 1 then vWd (vS In ty G (rS In ty G)) wd else wd) (ea) (ra)) H := hPo
    have hPi : va_P D vwCl (iw cI cC (cAd AD 162) (V9) (In) (o9) (pl9) (ty) (vc9)) H := hPi
    refine lv_istore_n (lv' := [(2, .int ((if rS In ty G < kL In ty + 1 then nI (rS In ty G) else -1))), (1, .int (nI (kL In ty + 1))), (0, .ref (AD 0))]) hx hb dX6_read_58 rfl hl (by decide) rfl (fun ls hl => ?_)
    refine lv_aload_n hx hb dX6_read_59 rfl (lv_at hl 2 rfl) ?_
    refine va_get (D := D) (ci := 8) (v := .ref ((cAd AD 162) 0)) (C := RX6) (T := TX6) (N := 11) hx hb hts in_X6 hown hK.1 hPo 0 rfl rfl 5 (by decide) fl_43 (fun _ h9 => h9) rfl dX6_read_60 ?_
    refine nv_kGv (va_runV (As := []) (rest := []) ⟨hx, hb, hml, hown, hts⟩ (c_X2_empty (x := cAd AD 162) l (fun _ _ _ => cD_of (b := 162) (n := 3) hI cAt_3 (by decide))) (cwV 0 hts gX6_read_X2_empty rfl rfl rfl (by decide +kernel) ⟨Nat.le_of_ble_eq_true rfl, Nat.le_of_ble_eq_true rfl⟩) (nt_pVn hT hS (cRg_A hAA (by decide)) hPi (cIn.recv hK.1 hPi)) rfl rfl hl.1 rfl (lv_room (Nat.le_of_ble_eq_true rfl)) dX6_read_63 ⟨Nat.le_of_ble_eq_true rfl, Nat.le_of_ble_eq_true rfl⟩) hS (cRg_A hAA (by decide)) (fun H locs hP1 hK1 hS => ?_)
    have hPi : va_P D vwCl (iw cI cC (cAd AD 162) (V9) (In) (o9) (pl9) (0) (vc9)) H := hP1
    have hPo := cOn_Ob.keep hI hK1 hPo (Or.inl (by decide)) (by decide) (by decide)
    have hPh := (cOn_P (cAt_hw 1)).keep hI hK1 hPh (Or.inl (by decide)) (by decide) (by decide)
    have hPs := cOn_Sv.keep hI hK1 hPs (Or.inl (by decide)) (by decide) (by decide)
    have hPq := (cOn_P (b := 29) (n := 2) cAt_2).keep hI hK1 hPq (Or.inl (by decide)) (by decide) (by decide)
    have hring := cOn_Ring.keep hI hK1 hring (Or.inl (by decide)) (by decide) (by decide)
    have hPz := (cOn_P (cAt_hw (31 + 14 * ((f + ch) % 9)))).keep hI hK1 hPz (Or.inl (by omega)) (by omega) (by decide)
    have hPw := cOn_Wk.keep hI hK1 hPw (Or.inl (by decide)) (by decide) (by decide)
    have hPt := cOn_Tx.keep hI hK1 hPt (Or.inl (by decide)) (by decide) (by decide)
    refine lv_iload_n hx hb dX6_read_66 rfl (lv_at hl 0 rfl) ?_
    refine lv_iconst (v := (-1)) hx hb dX6_read_67 (by decide) ?_
    refine lv_icmp_eq (tgt := 101) hx hb dX6_read_68 (by decide) (fun c2 => ?_) (fun c2 => ?_)
    · have hno : ¬ rS In ty G < kL In ty + 1 := (fr_no (by omega)).mp c2
      simp only [if_neg hno] at hPo
      refine lv_aload_n hx hb dX6_read_101 rfl (lv_at hl 2 rfl) ?_
      refine va_get (D := D) (ci := 8) (v := .ref ((cAd AD 29) 0)) (C := RX6) (T := TX6) (N := 11) hx hb hts in_X6 hown hK.1 hPo 0 rfl rfl 2 (by decide) fl_22 (fun _ h9 => h9) rfl dX6_read_102 ?_
      have hring0 := hring
      have hPz0 := hPz
      refine nv_kGv (va_runV (As := []) (rest := []) ⟨hx, hb, hml, hown, hts⟩ (c_X3_keepStaged l (fun _ _ => cD_of (b := 29) (n := 2) hI cAt_2 (by decide)) hf hch) (cwV 0 hts gX6_read_X3_keepStaged rfl rfl rfl (by decide +kernel) ⟨Nat.le_of_ble_eq_true rfl, Nat.le_of_ble_eq_true rfl⟩) (nt_pVn hT hS (cRg_A hAA (by decide)) hPq (va_recv hK.1 hPq (ci := 5) (q0 := 0) rfl rfl)) rfl rfl hl.1 rfl (lv_room (Nat.le_of_ble_eq_true rfl)) dX6_read_105 ⟨Nat.le_of_ble_eq_true rfl, Nat.le_of_ble_eq_true rfl⟩) hS (cRg_A hAA (by decide)) (fun H locs hP1 hK1 hS => ?_)
      have hPq := hP1
      have hPp := cPa_push hI hch hf hHw ⟨g_0, g_1, g_2⟩ hring0 (fun _ _ _ => rfl) hK1 hPz0 hz1k hz1R hPq
      have hPo := cOn_Ob.keep hI hK1 hPo (Or.inl (by decide)) (by decide) (by decide)
      have hPh := (cOn_P (cAt_hw 1)).keep hI hK1 hPh (Or.inl (by decide)) (by decide) (by decide)
      have hPs := cOn_Sv.keep hI hK1 hPs (Or.inl (by decide)) (by decide) (by decide)
      have hPw := cOn_Wk.keep hI hK1 hPw (Or.inr (by decide)) (by decide) (by decide)
      have hPt := cOn_Tx.keep hI hK1 hPt (Or.inr (by decide)) (by decide) (by decide)
      have hPi := cOn_iw.keep hI hK1 hPi (Or.inr (by decide)) (by decide) (by decide)
      refine lv_iload_n hx hb dX6_read_108 rfl (lv_at hl 1 rfl) ?_
      exact nv_retGX hq hx hb hr hlocks (Nat.le_of_ble_eq_true rfl) (Nat.le_of_ble_eq_true rfl) (nar_i _) (by rw [if_neg hm, if_neg hno]) (by rw [if_neg hm, if_neg hno]) hS (by simp only [if_neg hm, if_neg hno]; exact ⟨hPo, ⟨u, hR9 hno, hk, hPh⟩, ⟨V9, _, o9, _, vc9, rfl, hPi⟩, hPs, hPp, hPw, hPt⟩) dX6_read_109
    · have hys : rS In ty G < kL In ty + 1 := Decidable.not_not.mp (fun q => c2 ((fr_no (by omega)).mpr q))
      simp only [if_pos hys] at hPo
      rw [if_pos hys] at hl
      refine lv_aload_n hx hb dX6_read_71 rfl (lv_at hl 2 rfl) ?_
      refine lv_iload_n hx hb dX6_read_72 rfl (lv_at hl 0 rfl) ?_
      refine nv_putF (D := D) (ci := 8) (v := .int (nI (rS In ty G))) (ty := .int) (C := RX6) (T := TX6) (N := 11) hx hb hts in_X6 tyX6 tyX6_ok nmX6 hown hK.1 hPo (hAA 0 (by decide)) hS rfl 10 (by decide) fl_61 (fun _ h9 => h9) rfl (by decide +kernel) rfl rfl (Nat.le_of_ble_eq_true rfl) dX6_read_73 (fun H locs hPo hK9 hS => ?_)
      have hPo : va_P D vwCl (cOb AD (hs) (vWy (vS In ty G (rS In ty G)) wy) (vWd (vS In ty G (rS In ty G)) wd) (ea) (nI (rS In ty G))) H := hPo
      have hK1 : cFr (cRg AD 0 1) _ H := hK9.sub (fun q h9 => by rw [h9]; exact cRg_sg (by decide))
      have hPh := (cOn_P (cAt_hw 1)).keep hI hK1 hPh (Or.inr (by decide)) (by decide) (by decide)
      have hPs := cOn_Sv.keep hI hK1 hPs (Or.inr (by decide)) (by decide) (by decide)
      have hPq := (cOn_P (b := 29) (n := 2) cAt_2).keep hI hK1 hPq (Or.inr (by decide)) (by decide) (by decide)
      have hring := cOn_Ring.keep hI hK1 hring (Or.inr (by decide)) (by decide) (by decide)
      have hPz := (cOn_P (cAt_hw (31 + 14 * ((f + ch) % 9)))).keep hI hK1 hPz (Or.inr (by omega)) (by omega) (by decide)
      have hPw := cOn_Wk.keep hI hK1 hPw (Or.inr (by decide)) (by decide) (by decide)
      have hPt := cOn_Tx.keep hI hK1 hPt (Or.inr (by decide)) (by decide) (by decide)
      have hPi := cOn_iw.keep hI hK1 hPi (Or.inr (by decide)) (by decide) (by decide)
      refine lv_aload_n hx hb dX6_read_76 rfl (lv_at hl 2 rfl) ?_
      refine va_get (D := D) (ci := 8) (v := .ref ((cAd AD 1) 0)) (C := RX6) (T := TX6) (N := 11) hx hb hts in_X6 hown hK.1 hPo 0 rfl rfl 0 (by decide) fl_10 (fun _ h9 => h9) rfl dX6_read_77 ?_
      refine lv_aload_n hx hb dX6_read_80 rfl (lv_at hl 2 rfl) ?_
      refine va_get (D := D) (ci := 8) (v := .ref ((cAd AD 29) 0)) (C := RX6) (T := TX6) (N := 11) hx hb hts in_X6 hown hK.1 hPo 0 rfl rfl 2 (by decide) fl_22 (fun _ h9 => h9) rfl dX6_read_81 ?_
      refine nv_kSr (va_runV (As := []) (rest := [.ref ((cAd AD 1) 0)]) ⟨hx, hb, hml, hown, hts⟩ (c_X3_staged l hf hch) (cwV 0 hts gX6_read_X3_staged rfl rfl rfl (by decide +kernel) ⟨Nat.le_of_ble_eq_true rfl, Nat.le_of_ble_eq_true rfl⟩) (nt_pV hT hS hPq (va_recv hK.1 hPq (ci := 5) (q0 := 0) rfl rfl)) rfl rfl hl.1 rfl (lv_room (Nat.le_of_ble_eq_true rfl)) dX6_read_84 ⟨Nat.le_of_ble_eq_true rfl, Nat.le_of_ble_eq_true rfl⟩) ?_
      refine nv_kGv (va_runV (As := [.ref ((cAd AD (31 + 14 * ((f + ch) % 9))) 0)]) (rest := []) ⟨hx, hb, hml, hown, hts⟩ (c_X1_copyFrom l (fun _ => cD_two hI (a := 1) (b := (31 + 14 * ((f + ch) % 9))) (by decide) (by omega) (Or.inl (by omega))) hz1k) (cwV 1 hts gX6_read_X1_copyFrom rfl rfl rfl (by decide +kernel) ⟨Nat.le_of_ble_eq_true rfl, Nat.le_of_ble_eq_true rfl⟩) (nt_pVn hT hS (cR2_A hAA (by decide) (by omega)) (va_P.app hPh hPz) (va_recv hK.1 hPh (ci := 3) (q0 := 0) rfl rfl)) rfl rfl hl.1 rfl (lv_room (Nat.le_of_ble_eq_true rfl)) dX6_read_87 ⟨Nat.le_of_ble_eq_true rfl, Nat.le_of_ble_eq_true rfl⟩) hS (cR2_A hAA (by decide) (by omega)) (fun H locs hP1 hK1 hS => ?_)
      obtain ⟨z, hz, hPzv⟩ := hP1
      have hPh := va_P.left hPzv
      have hPz := va_P.right hPzv
      have hring := hring.read hI (by omega) hK1 hz1k hPz (fun j hj e9 => absurd e9 (by omega))
      have hR := hz.rel hz1R g_0 g_1 g_2
      have hk := hz.ok hz1k
      have hPo := cOn_Ob.keep2 (a := 1) (b := (31 + 14 * ((f + ch) % 9))) hI hK1 hPo (Or.inl (by decide)) (Or.inl (by omega)) (by decide) (by decide) (by omega)
      have hPs := cOn_Sv.keep2 (a := 1) (b := (31 + 14 * ((f + ch) % 9))) hI hK1 hPs (Or.inr (by decide)) (Or.inl (by omega)) (by decide) (by decide) (by omega)
      have hPq := (cOn_P (b := 29) (n := 2) cAt_2).keep2 (a := 1) (b := (31 + 14 * ((f + ch) % 9))) hI hK1 hPq (Or.inr (by decide)) (Or.inl (by omega)) (by decide) (by decide) (by omega)
      have hPw := cOn_Wk.keep2 (a := 1) (b := (31 + 14 * ((f + ch) % 9))) hI hK1 hPw (Or.inr (by decide)) (Or.inr (by omega)) (by decide) (by decide) (by omega)
      have hPt := cOn_Tx.keep2 (a := 1) (b := (31 + 14 * ((f + ch) % 9))) hI hK1 hPt (Or.inr (by decide)) (Or.inr (by omega)) (by decide) (by decide) (by omega)
      have hPi := cOn_iw.keep2 (a := 1) (b := (31 + 14 * ((f + ch) % 9))) hI hK1 hPi (Or.inr (by decide)) (Or.inr (by omega)) (by decide) (by decide) (by omega)
      exact nv_throwW (ws := wsX6_read) (ik := 390) (is := 392) (ic := 394) (cls := "java/lang/UnsupportedOperationException") (text := "an order is refused") (names := ["java/lang/RuntimeException", "java/lang/Exception"]) hq hx hb hl9 hown hts hT xUOE_fit ⟨by decide +kernel, by decide +kernel⟩ ⟨by decide +kernel, by decide +kernel⟩ (fun w hw => List.mem_cons_of_mem _ (List.mem_append_left _ (List.mem_append_right _ hw))) xUOE_bad xUOE_ok hS (hl.1.trans hml.symm) dX6_read_90 dX6_read_93 dX6_read_94 dX6_read_97 dX6_read_100 hout (by decide) (Nat.le_of_ble_eq_true rfl) (Nat.le_of_ble_eq_true rfl) (Nat.le_of_ble_eq_true rfl) hlocks (Nat.le_of_ble_eq_true rfl) (Nat.le_of_ble_eq_true rfl) (by rw [if_neg hm, if_pos hys]; exact Nat.succ_ne_zero _) (by rw [if_neg hm, if_pos hys] <;> rfl) (fun H1 h9 => by simp only [if_neg hm, if_pos hys]; exact (cJ.grow (show cJ D cI cC cD cR AD _ Sv Hi In Le hs ch 0 _ ln _ _ _ _ from ⟨hPo, hPh, ⟨V9, _, o9, _, vc9, rfl, hPi⟩, hPs, ⟨f, hf, hPq, hring⟩, hPw, hPt⟩) h9).W hR hk)
  · have hm : mal In ty := (co_mal (nI_nm1 (by omega))).mp c1
    refine lv_aload_n hx hb dX6_read_13 rfl (lv_at hl 1 rfl) ?_
    refine lv_aload_n hx hb dX6_read_14 rfl (lv_at hl 1 rfl) ?_
    refine va_get (D := D) (ci := 8) (v := .ref ((cAd AD 162) 0)) (C := RX6) (T := TX6) (N := 11) hx hb hts in_X6 hown hK.1 hPo 0 rfl rfl 5 (by decide) fl_43 (fun _ h9 => h9) rfl dX6_read_15 ?_
    have hP := hPi
    refine va_get (D := D) (ci := 4) (v := .int (nI ((oL In ty).1))) (C := RX2) (T := TX2) (N := 6) hx hb hts in_X2 hown hK.1 hP 0 rfl rfl 2 (by decide) fl_369 (fun _ h9 => h9) rfl dX6_read_18 ?_
    refine nv_putF (D := D) (ci := 8) (v := .int (nI ((oL In ty).1))) (ty := .int) (C := RX6) (T := TX6) (N := 11) hx hb hts in_X6 tyX6 tyX6_ok nmX6 hown hK.1 hPo (hAA 0 (by decide)) hS rfl 9 (by decide) fl_58 (fun _ h9 => h9) rfl (by decide +kernel) rfl rfl (Nat.le_of_ble_eq_true rfl) dX6_read_21 (fun H locs hPo hK9 hS => ?_)
    have hPo : va_P D vwCl (cOb AD (hs) (wy) (wd) (nI ((oL In ty).1)) (ra)) H := hPo
    have hK1 : cFr (cRg AD 0 1) _ H := hK9.sub (fun q h9 => by rw [h9]; exact cRg_sg (by decide))
    have hPh := (cOn_P (cAt_hw 1)).keep hI hK1 hPh (Or.inr (by decide)) (by decide) (by decide)
    have hPs := cOn_Sv.keep hI hK1 hPs (Or.inr (by decide)) (by decide) (by decide)
    have hPq := (cOn_P (b := 29) (n := 2) cAt_2).keep hI hK1 hPq (Or.inr (by decide)) (by decide) (by decide)
    have hring := cOn_Ring.keep hI hK1 hring (Or.inr (by decide)) (by decide) (by decide)
    have hPw := cOn_Wk.keep hI hK1 hPw (Or.inr (by decide)) (by decide) (by decide)
    have hPt := cOn_Tx.keep hI hK1 hPt (Or.inr (by decide)) (by decide) (by decide)
    have hPi := cOn_iw.keep hI hK1 hPi (Or.inr (by decide)) (by decide) (by decide)
    refine lv_aload_n hx hb dX6_read_24 rfl (lv_at hl 1 rfl) ?_
    refine va_get (D := D) (ci := 8) (v := .ref ((cAd AD 162) 0)) (C := RX6) (T := TX6) (N := 11) hx hb hts in_X6 hown hK.1 hPo 0 rfl rfl 5 (by decide) fl_43 (fun _ h9 => h9) rfl dX6_read_25 ?_
    refine nv_kGv (va_runV (As := []) (rest := []) ⟨hx, hb, hml, hown, hts⟩ (c_X2_empty (x := cAd AD 162) l (fun _ _ _ => cD_of (b := 162) (n := 3) hI cAt_3 (by decide))) (cwV 0 hts gX6_read_X2_empty rfl rfl rfl (by decide +kernel) ⟨Nat.le_of_ble_eq_true rfl, Nat.le_of_ble_eq_true rfl⟩) (nt_pVn hT hS (cRg_A hAA (by decide)) hPi (cIn.recv hK.1 hPi)) rfl rfl hl.1 rfl (lv_room (Nat.le_of_ble_eq_true rfl)) dX6_read_28 ⟨Nat.le_of_ble_eq_true rfl, Nat.le_of_ble_eq_true rfl⟩) hS (cRg_A hAA (by decide)) (fun H locs hP1 hK1 hS => ?_)
    have hPi : va_P D vwCl (iw cI cC (cAd AD 162) (V9) (In) (o9) ((oL In ty).1) (0) (vc9)) H := hP1
    have hPo := cOn_Ob.keep hI hK1 hPo (Or.inl (by decide)) (by decide) (by decide)
    have hPh := (cOn_P (cAt_hw 1)).keep hI hK1 hPh (Or.inl (by decide)) (by decide) (by decide)
    have hPs := cOn_Sv.keep hI hK1 hPs (Or.inl (by decide)) (by decide) (by decide)
    have hPq := (cOn_P (b := 29) (n := 2) cAt_2).keep hI hK1 hPq (Or.inl (by decide)) (by decide) (by decide)
    have hring := cOn_Ring.keep hI hK1 hring (Or.inl (by decide)) (by decide) (by decide)
    have hPw := cOn_Wk.keep hI hK1 hPw (Or.inl (by decide)) (by decide) (by decide)
    have hPt := cOn_Tx.keep hI hK1 hPt (Or.inl (by decide)) (by decide) (by decide)
    exact nv_throwW (ws := wsX6_read) (ik := 168) (is := 375) (ic := 172) (cls := "java/lang/IllegalArgumentException") (text := "the input is malformed") (names := ["java/lang/RuntimeException", "java/lang/Exception"]) hq hx hb hl9 hown hts hT xIAE_fit ⟨by decide +kernel, by decide +kernel⟩ ⟨by decide +kernel, by decide +kernel⟩ (fun w hw => List.mem_cons_of_mem _ (List.mem_append_left _ (List.mem_append_left _ (List.mem_append_right _ hw)))) xIAE_bad xIAE_ok hS (hl.1.trans hml.symm) dX6_read_31 dX6_read_34 dX6_read_35 dX6_read_38 dX6_read_41 hout (by decide) (Nat.le_of_ble_eq_true rfl) (Nat.le_of_ble_eq_true rfl) (Nat.le_of_ble_eq_true rfl) hlocks (Nat.le_of_ble_eq_true rfl) (Nat.le_of_ble_eq_true rfl) (by rw [if_pos hm]; exact Nat.succ_ne_zero _) (by rw [if_pos hm] <;> rfl) (fun H1 h9 => by simp only [if_pos hm]; exact (cJ.grow (show cJ D cI cC cD cR AD _ Sv Hi In Le hs ch 0 _ ln _ _ _ _ from ⟨hPo, hPh, ⟨V9, _, o9, _, vc9, rfl, hPi⟩, hPs, ⟨f, hf, hPq, hring⟩, hPw, hPt⟩) h9).W hR hk)
