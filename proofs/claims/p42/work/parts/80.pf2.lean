/-! worlds told by other functions that agree, and what stays of them -/
section CWC
variable {D : va_G} {cI cC cD cR : ClassId} {AD AE : Nat → Nat} {G G2 Sv Hi In Le : Nat → Nat} {k hs ch ty wy ln : Nat} {ea ra wd : Int32} {H H1 : Heap} {v : V}
theorem cW_congr (h : cW D cI cC cD cR AD G Sv Hi In Le hs ch ty wy ln ea ra wd H) (h0 : G 0 ≤ 8) (h1 : G 1 ≤ 6) (h2 : G 2 ≤ 5) (e : ∀ j, j < 128 → G2 j = G j) : cW D cI cC cD cR AD G2 Sv Hi In Le hs ch ty wy ln ea ra wd H := by
  obtain ⟨hOb, ⟨u1, r1, o1, p1⟩, hr⟩ := h
  exact ⟨hOb, ⟨u1, r1.congr h0 h1 h2 e, o1, p1⟩, hr⟩
theorem lF_congr (h : lF k G Sv Hi In Le hs ch ty wy ln) (e : ∀ j, j < 128 → G2 j = G j) : lF k G2 Sv Hi In Le hs ch ty wy ln := by
  obtain ⟨b, h1, hr⟩ := h
  exact ⟨b, gWf_ext h1 e, hr⟩
theorem lF_in (h : lF k G Sv Hi In Le hs ch 0 wy ln) (In2 : Nat → Nat) : lF k G Sv Hi In2 Le hs ch 0 wy ln := by
  obtain ⟨b, h1, h2, h3, h4, h5, h6, h7, h8, h9, _, h11⟩ := h
  exact ⟨b, h1, h2, h3, h4, h5, h6, h7, h8, h9, fun i hi => absurd hi (Nat.not_lt_zero i), h11⟩
theorem lF_wy (h : lF k G Sv Hi In Le hs ch ty wy ln) {w2 : Nat} (hw : w2 < 2 ^ 31) : lF k G Sv Hi In Le hs ch ty w2 ln := by
  obtain ⟨b, h1, h2, h3, h4, h5, h6, h7, h8, h9, h10, h11, h12, _⟩ := h
  exact ⟨b, h1, h2, h3, h4, h5, h6, h7, h8, h9, h10, h11, h12, hw⟩
theorem lF_Le (h : lF k G Sv Hi In Le hs ch ty wy ln) {Le2 : Nat → Nat} {ln2 : Nat} (h2 : ln2 ≤ 16) (h3 : ∀ i, i < ln2 → Le2 i < 65536) : lF k G Sv Hi In Le2 hs ch ty wy ln2 := by
  obtain ⟨b, h1, h2', h3', h4, h5, h6, h7, h8, h9, h10, _, _, h13⟩ := h
  exact ⟨b, h1, h2', h3', h4, h5, h6, h7, h8, h9, h10, h2, h3, h13⟩
theorem cW_keep (h : cW D cI cC cD cR AE G Sv Hi In Le hs ch ty wy ln ea ra wd H) (hK : cFr (cRg AD 0 165) H H1) (hn : ∀ i j, i < 165 → j < 165 → AD i ≠ AE j) : cW D cI cC cD cR AE G Sv Hi In Le hs ch ty wy ln ea ra wd H1 :=
  cOn_W _ _ _ (fun j _ hj h9 => by
    obtain ⟨i, _, hi, e⟩ := h9
    exact hn i j hi hj e.symm) hK h
theorem cW_far {A1 : Nat → Prop} (h : cW D cI cC cD cR AE G Sv Hi In Le hs ch ty wy ln ea ra wd H) (hn : ∀ j, j < 165 → ¬ A1 (AE j)) (hK : cFr A1 H H1) : cW D cI cC cD cR AE G Sv Hi In Le hs ch ty wy ln ea ra wd H1 :=
  cOn_W _ _ _ (fun j _ hj h9 => hn j hj h9) hK h
theorem lF_line (h : lF k G Sv Hi In Le hs ch ty wy ln) {T : List Nat} (h16 : T.length ≤ 16) (hT : ∀ c ∈ T, c < 65536) : lF k G Sv Hi In (wrL T Le 0) hs ch ty wy T.length := lF_Le h h16 (fun i hi => by
  rw [wrL_get _ _ _ hi]
  exact getD_lt hT (by decide) i)
theorem cW_grow (h : cW D cI cC cD cR AE G Sv Hi In Le hs ch ty wy ln ea ra wd H) (hK : cFr (aN H.size) H H1) : cW D cI cC cD cR AE G Sv Hi In Le hs ch ty wy ln ea ra wd H1 :=
  cOn_W _ _ _ (fun j _ hj h9 => absurd (cW_lt h j hj) (Nat.not_lt.mpr h9)) hK h
/-- the third house: its past is not told -/
def zW (D : va_G) (cI cC cD cR : ClassId) (AD : Nat → Nat) (k : Nat) (G Sv In Le : Nat → Nat) (hs ty wy ln : Nat) (ea ra wd : Int32) (H : Heap) : Prop := ∃ (Hi : Nat → Nat) (ch : Nat), lF k G Sv Hi In Le hs ch ty wy ln ∧ cW D cI cC cD cR AD G Sv Hi In Le hs ch ty wy ln ea ra wd H
theorem zW_step {k2 : Nat} (hF : lF k G Sv Hi In Le hs ch ty wy ln) (hk : k < 512) (hP : cWv D cI cC cD cR AD G Sv Hi In Le hs ch ty wy ln ea ra wd v H) (hv : ∀ b, gWf b G → 25 ≤ b → b + 1 < 2 ^ 20 → gWf (b + 1) v.2.2.2.2) (h0 : v.2.1 = 0) (e : ∀ j, j < 128 → v.2.2.2.2 j = G2 j) (hk2 : k2 = k + 1) : zW D cI cC cD cR AD k2 G2 Sv In Le hs ty wy ln ea ra wd H := by
  subst hk2
  have hF2 := hF.change hk v hv (by omega)
  unfold cWv at hP
  rw [vWy_0 h0] at hP hF2
  rw [vWd_0 h0] at hP
  obtain ⟨b, g1, -⟩ := id hF2
  exact ⟨_, _, lF_congr hF2 (fun j hj => (e j hj).symm), cW_congr hP g1.2.2.1 g1.2.2.2.1 g1.2.2.2.2.1 (fun j hj => (e j hj).symm)⟩
theorem zW_ref {k2 w : Nat} {d : Int32} (hF : lF k G Sv Hi In Le hs ch ty wy ln) (hk : k < 512) (hP : cWv D cI cC cD cR AD G Sv Hi In Le hs ch ty wy ln ea ra wd v H) (hn : ¬ v.1 = 0) (hG : v.2.2.2.2 = G) (hw : v.2.1 = w) (hd : v.2.2.1 = d) (hw0 : ¬ w = 0) (h100 : w ≤ 100) (hk2 : k2 = k + 1) : zW D cI cC cD cR AD k2 G Sv In Le hs ty w ln ea ra d H := by
  subst hk2
  unfold cWv at hP
  rw [if_neg hn, if_neg hn, hG, show vWy v wy = w by unfold vWy; rw [hw, if_neg hw0], show vWd v wd = d by unfold vWd; rw [hw, if_neg hw0, hd]] at hP
  exact ⟨Hi, ch, lF_wy (hF.next hk) (by omega), hP⟩
theorem zW_keep (h : zW D cI cC cD cR AE k G Sv In Le hs ty wy ln ea ra wd H) (hK : cFr (cRg AD 0 165) H H1) (hn : ∀ i j, i < 165 → j < 165 → AD i ≠ AE j) : zW D cI cC cD cR AE k G Sv In Le hs ty wy ln ea ra wd H1 := by
  obtain ⟨Hi, ch, h1, h2⟩ := h
  exact ⟨Hi, ch, h1, cW_keep h2 hK hn⟩
theorem zW_grow (h : zW D cI cC cD cR AE k G Sv In Le hs ty wy ln ea ra wd H) (hK : cFr (aN H.size) H H1) : zW D cI cC cD cR AE k G Sv In Le hs ty wy ln ea ra wd H1 := by
  obtain ⟨Hi, ch, h1, h2⟩ := h
  exact ⟨Hi, ch, h1, cW_grow h2 hK⟩
end CWC
/-! what is undone -/
def cU (n : Nat) : Nat := if n = 8 then 8 else n + 1
theorem cU_le {n : Nat} (h : n ≤ 8) : cU n ≤ 8 ∧ 1 ≤ cU n := by unfold cU; split <;> omega
theorem un_1 {Hi G : Nat → Nat} {n j : Nat} (hj : j < 128) : hAt (hPush Hi G n) (cU n - 1) j = G j := by
  have h := hPush_new (Hi := Hi) (G := G) (n := n) hj
  rw [← h]
  congr 1
  unfold cU
  split <;> omega
theorem un_2 {Hi G G1 : Nat → Nat} {n j : Nat} (hn : n ≤ 8) (hj : j < 128) : hAt (hPush (hPush Hi G n) G1 (cU n)) (cU (cU n) - 1 - 1) j = G j := by
  have h := hPush_new (Hi := Hi) (G := G) (n := n) hj
  by_cases h7 : cU n = 8
  · rw [h7, hPush_old8 (by decide) hj]
    show hAt (hPush Hi G n) 7 j = G j
    rw [← h]
    congr 1
    unfold cU at h7
    split <;> (try omega)
    split at h7 <;> omega
  · have hn7 : n < 7 := by
      unfold cU at h7
      split at h7 <;> omega
    have e1 : cU n = n + 1 := if_neg (by omega)
    have e2 : cU (n + 1) = n + 1 + 1 := if_neg (by omega)
    rw [e1, e2, show n + 1 + 1 - 1 - 1 = n by omega, hPush_old (by omega) (by omega) hj]
    rw [if_neg (by omega)] at h
    exact h
theorem un_3 {n : Nat} (hn : n ≤ 8) : 1 ≤ cU (cU n) - 1 ∧ cU (cU n) ≤ 8 := by
  unfold cU
  split
  · decide
  · split <;> omega
section RDW
variable {D : va_G} {cI cC cD cR : ClassId} {AD : Nat → Nat} {G G2 F Sv Hi In Le : Nat → Nat} {k hs ch ty wy ln r : Nat} {ea ra wd x d : Int32} {H : Heap} {v : V}
/-- an input that was carried out -/
theorem rdW_ok (n : Nat) (hm : ¬ mal In ty) (hk : kL In ty = n) (hr : rS In ty G = n + 1) (hG : GS In ty G (n + 1) = G2) (h : rdW D cI cC cD cR AD G Sv Hi In Le hs ch ty wy ln ea ra wd H) : cW D cI cC cD cR AD G2 Sv (hPush Hi G ch) In Le hs (cU ch) 0 wy ln ea ra wd H := by
  unfold rdW at h
  simp only [if_neg hm, hk, hr, if_neg (Nat.lt_irrefl (n + 1)), hG] at h
  exact h
theorem rdF_ok (n : Nat) (hm : ¬ mal In ty) (hk : kL In ty = n) (hr : rS In ty G = n + 1) (hG : GS In ty G (n + 1) = G2) (hF : lF k G Sv Hi In Le hs ch ty wy ln) (h9 : k < 512) : lF (k + 1) G2 Sv (hPush Hi G ch) In Le hs (cU ch) 0 wy ln := by
  have h := hF.read h9
  simp only [if_neg hm, hk, hr, if_neg (Nat.lt_irrefl (n + 1)), hG] at h
  exact h
theorem rdV_ok (n : Nat) (hm : ¬ mal In ty) (hk : kL In ty = n) (hr : rS In ty G = n + 1) : rdV In ty G = nI (n + 1) := by
  unfold rdV
  rw [if_neg hm, hk, hr, if_neg (Nat.lt_irrefl _)]
/-- an input of which an order can't be -/
theorem rdW_ref (n : Nat) (hm : ¬ mal In ty) (hk : kL In ty = n) (hr : rS In ty G = r) (hl : r < n + 1) {w : Nat} (hw : vWy (vS In ty G r) wy = w) (hd : vWd (vS In ty G r) wd = d) (h : rdW D cI cC cD cR AD G Sv Hi In Le hs ch ty wy ln ea ra wd H) : cW D cI cC cD cR AD G Sv Hi In Le hs ch 0 w ln ea (nI r) d H := by
  unfold rdW at h
  simp only [if_neg hm, hk, hr, if_pos hl, hw, hd] at h
  exact h
theorem rdF_ref (n : Nat) (hm : ¬ mal In ty) (hk : kL In ty = n) (hr : rS In ty G = r) (hl : r < n + 1) {w : Nat} (hw : vWy (vS In ty G r) wy = w) (hF : lF k G Sv Hi In Le hs ch ty wy ln) (h9 : k < 512) : lF (k + 1) G Sv Hi In Le hs ch 0 w ln := by
  have h := hF.read h9
  simp only [if_neg hm, hk, hr, if_pos hl, hw] at h
  exact h
theorem rdV_ref (n : Nat) (hm : ¬ mal In ty) (hk : kL In ty = n) (hr : rS In ty G = r) (hl : r < n + 1) : rdV In ty G = -2 := by
  unfold rdV
  rw [if_neg hm, hk, hr, if_pos hl]
/-- a change that was carried out -/
theorem cWv_vok (e : v = vOk x G2) (h : cWv D cI cC cD cR AD G Sv Hi In Le hs ch ty wy ln ea ra wd v H) : cW D cI cC cD cR AD G2 Sv (hPush Hi G ch) In Le hs (cU ch) ty wy ln ea ra wd H := by
  subst e
  unfold cWv at h
  rw [if_pos (show (vOk x G2).1 = 0 from rfl), if_pos (show (vOk x G2).1 = 0 from rfl), vWy_0 (show (vOk x G2).2.1 = 0 from rfl), vWd_0 (show (vOk x G2).2.1 = 0 from rfl)] at h
  exact h
theorem lF_vok (e : v = vOk x G2) (hF : lF k G Sv Hi In Le hs ch ty wy ln) (hk : k < 512) (hv : ∀ b, gWf b G → 25 ≤ b → b + 1 < 2 ^ 20 → gWf (b + 1) v.2.2.2.2) : lF (k + 1) G2 Sv (hPush Hi G ch) In Le hs (cU ch) ty wy ln := by
  subst e
  have h := hF.change hk _ hv (by show 0 ≤ 100; decide)
  rw [if_pos (show (vOk x G2).1 = 0 from rfl), if_pos (show (vOk x G2).1 = 0 from rfl), vWy_0 (show (vOk x G2).2.1 = 0 from rfl)] at h
  exact h
/-- what is undone, told by what it was -/
theorem undo_c (hc : ¬ ch = 0) (e : ∀ j, j < 128 → hAt Hi (ch - 1) j = F j) (hF : lF k G Sv Hi In Le hs ch ty wy ln) (h9 : k < 512) (h : cW D cI cC cD cR AD (if ch = 0 then G else hAt Hi (ch - 1)) Sv Hi In Le hs (ch - 1) ty wy ln ea ra wd H) : lF (k + 1) F Sv Hi In Le hs (ch - 1) ty wy ln ∧ cW D cI cC cD cR AD F Sv Hi In Le hs (ch - 1) ty wy ln ea ra wd H := by
  have h2 := hF.undo h9
  rw [if_neg hc] at h h2
  obtain ⟨b, g1, -⟩ := id h2
  exact ⟨lF_congr h2 (fun j hj => (e j hj).symm), cW_congr h g1.2.2.1 g1.2.2.2.1 g1.2.2.2.2.1 (fun j hj => (e j hj).symm)⟩
end RDW
