/-! the class's world: an object, a house, a saved one, the ring of the past, ways, the line, the input, at addresses AD 0 to AD 164 -/
def cAd (AD : Nat → Nat) (k : Nat) : Nat → Nat := fun i => AD (k + i)
def cRg (AD : Nat → Nat) (lo hi : Nat) : Nat → Prop := fun q => ∃ i, lo ≤ i ∧ i < hi ∧ q = AD i
def cInj (AD : Nat → Nat) : Prop := ∀ i j, i < 165 → j < 165 → AD i = AD j → i = j
/-- the cells stand one by one from AD b on -/
def cAt (AD : Nat → Nat) (b n : Nat) (ws : va_W) : Prop := ∀ (k : Nat) (q : Nat × va_E), ws[k]? = some q → k < n ∧ q.1 = AD (b + k)
/-- nothing but A1 has changed from H to H1 -/
abbrev cFr (A1 : Nat → Prop) (H H1 : Heap) : Prop := ∀ q : Nat, q < H.size → ¬ A1 q → H1[q]? = H[q]?
theorem cRg_no {AD : Nat → Nat} (hI : cInj AD) {lo hi j : Nat} (hh : hi ≤ 165) (hj : j < 165) (h : j < lo ∨ hi ≤ j) : ¬ cRg AD lo hi (AD j) := by
  rintro ⟨i, h1, h2, e⟩
  have := hI j i hj (by omega) e
  omega
theorem cRg_sub {AD : Nat → Nat} {lo hi lo2 hi2 : Nat} (h1 : lo2 ≤ lo) (h2 : hi ≤ hi2) : ∀ q, cRg AD lo hi q → cRg AD lo2 hi2 q := fun _ ⟨i, a, b, e⟩ => ⟨i, by omega, by omega, e⟩
theorem cRg_A {AD : Nat → Nat} {A : Nat → Prop} (hA : ∀ i, i < 165 → A (AD i)) {lo hi : Nat} (h : hi ≤ 165) : ∀ q, cRg AD lo hi q → A q := fun q ⟨i, _, b, e⟩ => by rw [e]; exact hA i (by omega)
theorem cFr.sub {A1 A2 : Nat → Prop} {H H1 : Heap} (h : cFr A1 H H1) (hs : ∀ q, A1 q → A2 q) : cFr A2 H H1 := fun q h1 h2 => h q h1 (fun z => h2 (hs q z))
section CAT
variable {D : va_G} {cl : List vw_C} {AD : Nat → Nat} {H H1 : Heap} {cI cC cD cR : ClassId} {u : hS}
theorem cKeep {ws : va_W} {b n : Nat} {A1 : Nat → Prop} (hP : va_P D cl ws H) (hw : cAt AD b n ws) (hn : ∀ i, i < n → ¬ A1 (AD (b + i))) (hK : cFr A1 H H1) : va_P D cl ws H1 :=
  hP.kept (fun k q hk => by
    obtain ⟨h1, e⟩ := hw k q hk
    exact hK q.1 (vx_lt hP hk) (by rw [e]; exact hn k h1))
theorem cD_of {ws : va_W} {b n : Nat} (hI : cInj AD) (hw : cAt AD b n ws) (hb : b + n ≤ 165) : va_D (cRg AD b (b + n)) ws := by
  refine ⟨fun i j p q hi hj e => ?_, fun k q hk => ?_⟩
  · obtain ⟨h1, e1⟩ := hw i p hi
    obtain ⟨h2, e2⟩ := hw j q hj
    have := hI (b + i) (b + j) (by omega) (by omega) (by rw [← e1, ← e2]; exact e)
    omega
  · obtain ⟨h1, e1⟩ := hw k q hk
    exact ⟨b + k, by omega, by omega, e1⟩
theorem cAt_hw (b : Nat) : cAt AD b 14 (hw cI cD (cAd AD b) u) := by
  intro k q hk
  have h := (List.getElem?_eq_some_iff.mp hk).1
  have h : k < 14 := h
  refine ⟨h, ?_⟩
  rcases (show k = 0 ∨ k = 1 ∨ k = 2 ∨ k = 3 ∨ k = 4 ∨ k = 5 ∨ k = 6 ∨ k = 7 ∨ k = 8 ∨ k = 9 ∨ k = 10 ∨ k = 11 ∨ k = 12 ∨ k = 13 by omega) with rfl | rfl | rfl | rfl | rfl | rfl | rfl | rfl | rfl | rfl | rfl | rfl | rfl | rfl <;> (cases Option.some.inj hk; rfl)
theorem cAt_1 {b : Nat} {e : va_E} : cAt AD b 1 [(AD b, e)] := by
  intro k q hk
  have h := (List.getElem?_eq_some_iff.mp hk).1
  have h : k < 1 := h
  refine ⟨h, ?_⟩
  rcases (show k = 0 by omega) with rfl
  cases Option.some.inj hk; rfl
theorem cAt_2 {b : Nat} {e0 e1 : va_E} : cAt AD b 2 [(cAd AD b 0, e0), (cAd AD b 1, e1)] := by
  intro k q hk
  have h := (List.getElem?_eq_some_iff.mp hk).1
  have h : k < 2 := h
  refine ⟨h, ?_⟩
  rcases (show k = 0 ∨ k = 1 by omega) with rfl | rfl <;> (cases Option.some.inj hk; rfl)
theorem cAt_3 {b : Nat} {e0 e1 e2 : va_E} : cAt AD b 3 [(cAd AD b 0, e0), (cAd AD b 1, e1), (cAd AD b 2, e2)] := by
  intro k q hk
  have h := (List.getElem?_eq_some_iff.mp hk).1
  have h : k < 3 := h
  refine ⟨h, ?_⟩
  rcases (show k = 0 ∨ k = 1 ∨ k = 2 by omega) with rfl | rfl | rfl <;> (cases Option.some.inj hk; rfl)
end CAT
def cOb (AD : Nat → Nat) (hs wy : Nat) (wd ea ra : Int32) : va_W := [(AD 0, .inr (8, [.ref (cAd AD 1 0), .ref (cAd AD 15 0), .ref (cAd AD 29 0), .ref (cAd AD 157 0), .ref (cAd AD 160 0), .ref (cAd AD 162 0), .int (nI hs), .int (nI wy), .int wd, .int ea, .int ra]))]
def pw9 (cR : ClassId) (AD : Nat → Nat) (f n : Nat) : va_W := [(cAd AD 29 0, .inr (5, [.ref (cAd AD 29 1), .int (nI f), .int (nI n)])), (cAd AD 29 1, .inl (cR, 9, .inr (.inr (.inr (.inr (fun i => some (cAd AD (31 + 14 * i) 0)))))))]
def cSv (D : va_G) (cI cD : ClassId) (AD : Nat → Nat) (hs : Nat) (Sv : Nat → Nat) (H : Heap) : Prop := ∃ u, (hs = 1 → hRel u Sv) ∧ hOk u ∧ va_P D vwCl (hw cI cD (cAd AD 15) u) H
def cPa (D : va_G) (cI cD cR : ClassId) (AD : Nat → Nat) (Hi : Nat → Nat) (ch : Nat) (H : Heap) : Prop := ∃ f, f < 9 ∧ va_P D vwCl (pw9 cR AD f ch) H ∧ ∀ k, k < 9 → ∃ u, hOk u ∧ va_P D vwCl (hw cI cD (cAd AD (31 + 14 * k)) u) H ∧ ∀ j, j < ch → (f + j) % 9 = k → hRel u (hAt Hi j)
def cWk (D : va_G) (cI : ClassId) (AD : Nat → Nat) (H : Heap) : Prop := ∃ P Q, va_P D vwCl (wk cI (cAd AD 157) P Q) H
def cTx (D : va_G) (cC : ClassId) (AD : Nat → Nat) (Le : Nat → Nat) (ln : Nat) (H : Heap) : Prop := ∃ F, (∀ i, i < ln → F i = Le i) ∧ ln ≤ 16 ∧ va_P D vwCl (tw cC (cAd AD 160) F ln) H
def cIn (D : va_G) (cI cC : ClassId) (AD : Nat → Nat) (In : Nat → Nat) (ty : Nat) (H : Heap) : Prop := ∃ V SA o pl vc, SA = In ∧ va_P D vwCl (iw cI cC (cAd AD 162) V SA o pl ty vc) H
/-- a predicate of the heap that only speaks of AD lo to AD (hi - 1) -/
def cOn (AD : Nat → Nat) (lo hi : Nat) (P : Heap → Prop) : Prop := ∀ (A1 : Nat → Prop) (H H1 : Heap), (∀ i, lo ≤ i → i < hi → ¬ A1 (AD i)) → cFr A1 H H1 → P H → P H1
section CON
variable {D : va_G} {AD : Nat → Nat} {H H1 : Heap} {cI cC cD cR : ClassId}
theorem cOn_P {ws : va_W} {b n : Nat} (hw : cAt AD b n ws) : cOn AD b (b + n) (fun H => va_P D vwCl ws H) := fun A1 H H1 hn hK hP => cKeep hP hw (fun i hi => hn (b + i) (by omega) (by omega)) hK
theorem cOn.and {P Q : Heap → Prop} {lo hi lo2 hi2 l h : Nat} (h1 : cOn AD lo hi P) (h2 : cOn AD lo2 hi2 Q) (a1 : l ≤ lo) (a2 : hi ≤ h) (b1 : l ≤ lo2) (b2 : hi2 ≤ h) : cOn AD l h (fun H => P H ∧ Q H) :=
  fun A1 H H1 hn hK hP => ⟨h1 A1 H H1 (fun i x y => hn i (by omega) (by omega)) hK hP.1, h2 A1 H H1 (fun i x y => hn i (by omega) (by omega)) hK hP.2⟩
theorem cOn_hO {G : Nat → Nat} (b : Nat) : cOn AD b (b + 14) (hO D cI cD (cAd AD b) G) := fun A1 H H1 hn hK ⟨u, h1, h2, h3⟩ => ⟨u, h1, h2, cOn_P (cAt_hw b) A1 H H1 hn hK h3⟩
theorem cOn_Sv {hs : Nat} {Sv : Nat → Nat} : cOn AD 15 29 (cSv D cI cD AD hs Sv) := fun A1 H H1 hn hK ⟨u, h1, h2, h3⟩ => ⟨u, h1, h2, cOn_P (cAt_hw 15) A1 H H1 hn hK h3⟩
theorem cOn_Pa {Hi : Nat → Nat} {ch : Nat} : cOn AD 29 157 (cPa D cI cD cR AD Hi ch) := fun A1 H H1 hn hK ⟨f, h1, h2, h3⟩ =>
  ⟨f, h1, cOn_P (b := 29) (n := 2) cAt_2 A1 H H1 (fun i x y => hn i (by omega) (by omega)) hK h2, fun k hk => by
    obtain ⟨u, a, b, c⟩ := h3 k hk
    exact ⟨u, a, cOn_P (cAt_hw (31 + 14 * k)) A1 H H1 (fun i x y => hn i (by omega) (by omega)) hK b, c⟩⟩
theorem cOn_Wk : cOn AD 157 160 (cWk D cI AD) := fun A1 H H1 hn hK ⟨P, Q, h⟩ => ⟨P, Q, cOn_P (b := 157) (n := 3) cAt_3 A1 H H1 hn hK h⟩
theorem cOn_Tx {Le : Nat → Nat} {ln : Nat} : cOn AD 160 162 (cTx D cC AD Le ln) := fun A1 H H1 hn hK ⟨F, a, b, h⟩ => ⟨F, a, b, cOn_P (b := 160) (n := 2) cAt_2 A1 H H1 hn hK h⟩
theorem cOn_iw {V : Nat → Int32} {SA : Nat → Nat} {o pl ty vc : Nat} : cOn AD 162 165 (fun H => va_P D vwCl (iw cI cC (cAd AD 162) V SA o pl ty vc) H) := cOn_P (b := 162) (n := 3) cAt_3
theorem cOn_In {In : Nat → Nat} {ty : Nat} : cOn AD 162 165 (cIn D cI cC AD In ty) := fun A1 H H1 hn hK ⟨V, SA, o, pl, vc, a, h⟩ => ⟨V, SA, o, pl, vc, a, cOn_iw A1 H H1 hn hK h⟩
theorem cOn_Ob {hs wy : Nat} {wd ea ra : Int32} : cOn AD 0 1 (fun H => va_P D vwCl (cOb AD hs wy wd ea ra) H) := cOn_P (b := 0) (n := 1) cAt_1
/-- kept, where the range that has changed lies apart -/
theorem cOn.keep {P : Heap → Prop} {lo hi l h : Nat} (hc : cOn AD lo hi P) (hI : cInj AD) (hK : cFr (cRg AD l h) H H1) (hP : P H) (hd : hi ≤ l ∨ h ≤ lo) (h1 : hi ≤ 165) (h2 : h ≤ 165) : P H1 :=
  hc _ H H1 (fun i a b => cRg_no hI h2 (by omega) (by omega)) hK hP
end CON
/-- all but the object, the house and the input -/
def cRe (D : va_G) (cI cC cD cR : ClassId) (AD : Nat → Nat) (Sv Hi Le : Nat → Nat) (hs ch ln : Nat) (H : Heap) : Prop := cSv D cI cD AD hs Sv H ∧ cPa D cI cD cR AD Hi ch H ∧ cWk D cI AD H ∧ cTx D cC AD Le ln H
/-- the class's world: as the reference's, told by the same numbers -/
def cW (D : va_G) (cI cC cD cR : ClassId) (AD : Nat → Nat) (G Sv Hi In Le : Nat → Nat) (hs ch ty wy ln : Nat) (ea ra wd : Int32) (H : Heap) : Prop :=
  va_P D vwCl (cOb AD hs wy wd ea ra) H ∧ hO D cI cD (cAd AD 1) G H ∧ cIn D cI cC AD In ty H ∧ cRe D cI cC cD cR AD Sv Hi Le hs ch ln H
section CRE
variable {D : va_G} {AD : Nat → Nat} {H H1 : Heap} {cI cC cD cR : ClassId} {G Sv Hi In Le : Nat → Nat} {hs ch ty wy ln : Nat} {ea ra wd : Int32}
theorem cOn_Re : cOn AD 15 162 (cRe D cI cC cD cR AD Sv Hi Le hs ch ln) :=
  cOn.and cOn_Sv (cOn.and cOn_Pa (cOn.and cOn_Wk cOn_Tx (Nat.le_refl 157) (by decide : 160 ≤ 162) (by decide) (Nat.le_refl _)) (Nat.le_refl 29) (by decide) (by decide) (Nat.le_refl 162)) (Nat.le_refl 15) (by decide) (by decide) (Nat.le_refl 162)
/-- new cells alone -/
theorem cW.grow (h : cW D cI cC cD cR AD G Sv Hi In Le hs ch ty wy ln ea ra wd H) (hK : ∀ q : Nat, q < H.size → H1[q]? = H[q]?) : cW D cI cC cD cR AD G Sv Hi In Le hs ch ty wy ln ea ra wd H1 := by
  have hK : cFr (fun _ => False) H H1 := fun q h1 _ => hK q h1
  obtain ⟨h1, h2, h3, h4⟩ := h
  exact ⟨cOn_Ob _ H H1 (fun _ _ _ z => z) hK h1, cOn_hO 1 _ H H1 (fun _ _ _ z => z) hK h2, cOn_In _ H H1 (fun _ _ _ z => z) hK h3, cOn_Re _ H H1 (fun _ _ _ z => z) hK h4⟩
end CRE
section KTN
variable {s : State} {D : va_G} {tys : List (ClassId × FieldType)} {N : List nL} {sa : sA} {A A1 : Nat → Prop} {H : Heap} {locs : List Loc} {P : Heap → Prop} {As : List Value} {C : String} {b : Addr}
theorem nt_pSn (hT : kT D tys N sa A s s.heap) (hS : va_S A s.heap H locs) (hA : ∀ q, A1 q → A q) (hP : P H) : PreS s H (va_Pc As (tPre D tys N sa A1 P)) As := ⟨tPre_blind, fun U hU hW => ⟨rfl, by rw [hU]; exact hP, (kT.go hT hS hU hW).narrow hA⟩⟩
theorem nt_pVn (hT : kT D tys N sa A s s.heap) (hS : va_S A s.heap H locs) (hA : ∀ q, A1 q → A q) (hP : P H) (hr : ∃ cell : Cell, H[b]? = some cell ∧ cell.vm.isStatics = false ∧ s.vm.findClass C = some cell.cls) : PreV s H C b (va_Pc (.ref b :: As) (tPre D tys N sa A1 P)) As := ⟨tPre_blind, hr, fun U hU hW => ⟨rfl, by rw [hU]; exact hP, (kT.go hT hS hU hW).narrow hA⟩⟩
end KTN
