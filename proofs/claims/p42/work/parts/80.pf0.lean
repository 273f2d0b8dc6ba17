/-! texts are told by their letters alone -/
theorem hrx_hc {F F' : Nat → Nat} {ty : Nat} (h : ∀ i, i < ty → F i = F' i) : hrx F ty = hrx F' ty := by
  funext sp
  unfold hrx
  by_cases q : sp < ty
  · rw [if_pos q, if_pos q, h sp q]
  · rw [if_neg q, if_neg q]
theorem st1_hc {F F' : Nat → Nat} {ty : Nat} (h : hrx F ty = hrx F' ty) (w : Nat) (E : Nat × Nat) : st1 F ty w E = st1 F' ty w E := by
  unfold st1
  rw [h]
theorem rn_hc {F F' : Nat → Nat} {ty : Nat} (h : hrx F ty = hrx F' ty) : ∀ (l : List Nat) (E : Nat × Nat), rn F ty l E = rn F' ty l E
  | [], _ => rfl
  | w :: l, E => by
    show rn F ty l (st1 F ty w E) = rn F' ty l (st1 F' ty w E)
    rw [st1_hc h, rn_hc h l]
theorem go_hc {F F' : Nat → Nat} {ty : Nat} (h : hrx F ty = hrx F' ty) : ∀ (l : List Nat) (E : Nat × Nat) (T : Nat → Int32) (n : Nat), go F ty l E T n = go F' ty l E T n
  | [], _, _, _ => rfl
  | w :: l, E, T, n => by
    show (if w < 200 then go F ty l (st1 F ty w E) T n else go F ty l (st1 F ty w E) (upd T n (vI w (hrx F ty E.1))) (n + 1)) = (if w < 200 then go F' ty l (st1 F' ty w E) T n else go F' ty l (st1 F' ty w E) (upd T n (vI w (hrx F' ty E.1))) (n + 1))
    rw [st1_hc h, h, go_hc h l, go_hc h l]
theorem kd_hc {F F' : Nat → Nat} {ty : Nat} (h : hrx F ty = hrx F' ty) (sp : Nat) : kd F ty sp = kd F' ty sp := by
  unfold kd
  rw [h]
theorem rdO_hc {F F' : Nat → Nat} {ty : Nat} (h : hrx F ty = hrx F' ty) (sp : Nat) (T : Nat → Int32) (k : Nat) : rdO F ty sp T k = rdO F' ty sp T k := by
  unfold rdO
  rw [kd_hc h, go_hc h, h]
theorem oE_hc {F F' : Nat → Nat} {ty : Nat} (h : hrx F ty = hrx F' ty) (sp : Nat) : oE F ty sp = oE F' ty sp := by
  unfold oE
  rw [kd_hc h, rn_hc h]
theorem oV_hc {F F' : Nat → Nat} {ty : Nat} (h : hrx F ty = hrx F' ty) (sp i : Nat) : oV F ty sp i = oV F' ty sp i := by
  unfold oV
  rw [rdO_hc h]
theorem vO_hc {F F' : Nat → Nat} {ty : Nat} (h : hrx F ty = hrx F' ty) (sp : Nat) (G : Nat → Nat) : vO F ty sp G = vO F' ty sp G := by
  unfold vO
  rw [kd_hc h, oV_hc h, oV_hc h, oV_hc h, oV_hc h, oV_hc h]
theorem sn_hc {F F' : Nat → Nat} {ty : Nat} (h : hrx F ty = hrx F' ty) : ∀ n, sn F ty n = sn F' ty n
  | 0 => rfl
  | n + 1 => by
    show (oE F ty (sn F ty n)).1 + 1 = (oE F' ty (sn F' ty n)).1 + 1
    rw [sn_hc h n, oE_hc h]
theorem gd_hc {F F' : Nat → Nat} {ty : Nat} (h : hrx F ty = hrx F' ty) (n : Nat) : gd F ty n ↔ gd F' ty n := by
  show ((oE F ty (sn F ty n)).2 = 0 ∧ hrx F ty (oE F ty (sn F ty n)).1 = nI 59) ↔ ((oE F' ty (sn F' ty n)).2 = 0 ∧ hrx F' ty (oE F' ty (sn F' ty n)).1 = nI 59)
  rw [sn_hc h, oE_hc h, h]
theorem kL_hc {F F' : Nat → Nat} {ty : Nat} (h : hrx F ty = hrx F' ty) : kL F ty = kL F' ty := fd_congr (fun j _ => not_congr (gd_hc h j))
theorem oL_hc {F F' : Nat → Nat} {ty : Nat} (h : hrx F ty = hrx F' ty) : oL F ty = oL F' ty := by
  show oE F ty (sn F ty (kL F ty)) = oE F' ty (sn F' ty (kL F' ty))
  rw [kL_hc h, sn_hc h, oE_hc h]
theorem mal_hc {F F' : Nat → Nat} {ty : Nat} (h : hrx F ty = hrx F' ty) : mal F ty ↔ mal F' ty := by
  show (¬ (oL F ty).2 = 0 ∨ (oL F ty).1 < ty) ↔ (¬ (oL F' ty).2 = 0 ∨ (oL F' ty).1 < ty)
  rw [oL_hc h]
theorem GS_hc {F F' : Nat → Nat} {ty : Nat} (h : hrx F ty = hrx F' ty) (G : Nat → Nat) : ∀ n, GS F ty G n = GS F' ty G n
  | 0 => rfl
  | n + 1 => by
    show (vO F ty (sn F ty n) (GS F ty G n)).2.2.2.2 = (vO F' ty (sn F' ty n) (GS F' ty G n)).2.2.2.2
    rw [sn_hc h, GS_hc h G n, vO_hc h]
theorem vS_hc {F F' : Nat → Nat} {ty : Nat} (h : hrx F ty = hrx F' ty) (G : Nat → Nat) (n : Nat) : vS F ty G n = vS F' ty G n := by
  unfold vS
  rw [sn_hc h, GS_hc h, vO_hc h]
theorem wrL_out : ∀ (l : List Nat) (F : Nat → Nat) (n i : Nat), i < n → wrL l F n i = F i
  | [], _, _, _, _ => rfl
  | c :: l, F, n, i, h => by
    show wrL l (va_up F n c) (n + 1) i = F i
    rw [wrL_out l _ _ _ (by omega)]
    exact if_neg (by omega)
theorem wrL_at : ∀ (l : List Nat) (F : Nat → Nat) (n j : Nat), j < l.length → wrL l F n (n + j) = l.getD j 0
  | [], _, _, _, h => absurd h (Nat.not_lt_zero _)
  | c :: l, F, n, 0, _ => by
    show wrL l (va_up F n c) (n + 1) n = c
    rw [wrL_out l _ _ _ (by omega)]
    exact if_pos rfl
  | c :: l, F, n, j + 1, h => by
    show wrL l (va_up F n c) (n + 1) (n + (j + 1)) = l.getD j 0
    rw [show n + (j + 1) = n + 1 + j by omega]
    exact wrL_at l _ _ _ (by simpa using h)
/-- a text written over any other -/
theorem hrx_w (T : List Nat) (In : Nat → Nat) : hrx (wrL T In 0) (0 + T.length) = hrx (wrL T (fun _ => 0) 0) (0 + T.length) := hrx_hc (fun i hi => by
  have h := wrL_at T In 0 i (by omega)
  have h2 := wrL_at T (fun _ => 0) 0 i (by omega)
  rw [Nat.zero_add] at h h2
  rw [h, h2])
theorem wrL_get (l : List Nat) (F : Nat → Nat) (j : Nat) (h : j < l.length) : wrL l F 0 j = l.getD j 0 := by
  have h1 := wrL_at l F 0 j h
  rwa [Nat.zero_add] at h1
/-! how many orders a text holds -/
theorem kL_0 {F : Nat → Nat} {ty : Nat} (h : ¬ gd F ty 0) : kL F ty = 0 := fd_some (fun j hj => absurd hj (Nat.not_lt_zero j)) h (by decide)
theorem kL_n {F : Nat → Nat} {ty : Nat} (n : Nat) (h0 : ∀ j, j < n → gd F ty j) (h : ¬ gd F ty n) (hn : n < 31) : kL F ty = n := fd_some (fun j hj q => q (h0 j hj)) h hn
/-! the three texts for the script's house -/
def oW (w : Nat) : Nat := if w = 23 then 24 else 23
theorem oW_lt (w : Nat) : oW w < 26 ∧ 23 ≤ oW w := by unfold oW; split <;> omega
theorem oW_ne (w : Nat) : oW w ≠ w := by unfold oW; split <;> omega
def T2 (a b : Nat) : List Nat := [101, 110, 100, 48, 83, 100, 61, 97 + a, 59, 101, 110, 100, 48, 83, 100, 61, 97 + b]
def T3 : List Nat := [107, 110, 111, 99, 107, 57, 58, 111, 115, 79]
theorem okT_T2 {a b : Nat} (ha : a < 26) (hb : b < 26) : okT (T2 a b) := by
  intro c hc
  unfold T2 at hc
  simp only [List.mem_cons, List.not_mem_nil, or_false] at hc
  omega
theorem okT_T3 : okT T3 := by decide
abbrev t2A (F : Nat → Nat) : Prop := gd F 17 0 ∧ ¬ gd F 17 1 ∧ oE F 17 9 = (17, 0) ∧ sn F 17 1 = 9 ∧ kd F 17 0 = 4 ∧ kd F 17 9 = 4
abbrev t2B (a b : Nat) (F : Nat → Nat) : Prop := oV F 17 0 1 = nI 0 ∧ oV F 17 0 2 = nI 1 ∧ oV F 17 0 3 = nI 1 ∧ oV F 17 0 4 = nI a ∧ oV F 17 9 1 = nI 0 ∧ oV F 17 9 2 = nI 1 ∧ oV F 17 9 3 = nI 1 ∧ oV F 17 9 4 = nI b
theorem t2_f1 : ∀ a, a < 26 → ∀ b, b < 26 → t2A (wrL (T2 a b) (fun _ => 0) 0) := by decide +kernel
theorem t2_f2 : ∀ a, a < 26 → ∀ b, b < 26 → t2B a b (wrL (T2 a b) (fun _ => 0) 0) := by decide +kernel
abbrev t3P (F : Nat → Nat) : Prop := ¬ gd F 10 0 ∧ oE F 10 0 = (10, 0) ∧ kd F 10 0 = 6 ∧ oV F 10 0 1 = nI 9
theorem t3_f : t3P (wrL T3 (fun _ => 0) 0) := by decide +kernel
/-- an ending told -/
theorem vT_ok {G : Nat → Nat} {x y : Nat} (hx : G 11 = x) (h26 : x < 26) (hy : y < 26) (hn : y ≠ x) : vTell G (nI 0) (nI 1) 1 (nI y) = vOk (nI x) (va_up G 11 y) := by
  have e : gEndAt (tN (nI 0)) (tN (nI 1)) 1 = 11 := by decide
  unfold vTell
  rw [e, hx, if_neg (fun q => q.elim (fun q => q (by decide)) (fun q => q.elim (fun q => q (by decide)) (fun q => q (iR_nI hy (by decide))))), if_neg (fun q => hn ((nI_eq (by omega) (by omega)).mp q).symm), tN_nI (by omega)]
theorem vT_same {G : Nat → Nat} {x : Nat} (hx : G 11 = x) (h26 : x < 26) : vTell G (nI 0) (nI 1) 1 (nI x) = vRef 2 2 (nI x) G := by
  have e : gEndAt (tN (nI 0)) (tN (nI 1)) 1 = 11 := by decide
  unfold vTell
  rw [e, hx, if_neg (fun q => q.elim (fun q => q (by decide)) (fun q => q.elim (fun q => q (by decide)) (fun q => q (iR_nI h26 (by decide))))), if_pos rfl]
theorem up_back {G : Nat → Nat} {x y : Nat} (hx : G 11 = x) : va_up (va_up G 11 y) 11 x = G := by
  funext j
  unfold va_up
  by_cases e : j = 11
  · rw [if_pos e, e, hx]
  · rw [if_neg e, if_neg e]
/-- what T2 says of any house: two endings are told one by one -/
theorem t2_gen {a b : Nat} {F : Nat → Nat} (f : t2A F) (f0 : t2B a b F) (G : Nat → Nat) : ¬ mal F 17 ∧ kL F 17 = 1 ∧ vS F 17 G 0 = vTell G (nI 0) (nI 1) 1 (nI a) ∧ vS F 17 G 1 = vTell (vTell G (nI 0) (nI 1) 1 (nI a)).2.2.2.2 (nI 0) (nI 1) 1 (nI b) ∧ GS F 17 G 2 = (vTell (vTell G (nI 0) (nI 1) 1 (nI a)).2.2.2.2 (nI 0) (nI 1) 1 (nI b)).2.2.2.2 := by
  obtain ⟨f1, f2, f3, f4, f5, f6⟩ := f
  obtain ⟨f7, f8, f9, f10, f11, f12, f13, f14⟩ := f0
  have e1 : tN (nI 1) = 1 := by decide
  have hk : kL F 17 = 1 := kL_n 1 (fun j hj => by rw [show j = 0 by omega]; exact f1) f2 (by decide)
  have v0 : ∀ G9, vO F 17 0 G9 = vTell G9 (nI 0) (nI 1) 1 (nI a) := fun G9 => by
    unfold vO
    rw [f5, f7, f8, f9, f10]
    show vTell G9 (nI 0) (nI 1) (tN (nI 1)) (nI a) = _
    rw [e1]
  have v1 : ∀ G9, vO F 17 9 G9 = vTell G9 (nI 0) (nI 1) 1 (nI b) := fun G9 => by
    unfold vO
    rw [f6, f11, f12, f13, f14]
    show vTell G9 (nI 0) (nI 1) (tN (nI 1)) (nI b) = _
    rw [e1]
  have s0 : vS F 17 G 0 = vO F 17 0 G := rfl
  have s1 : vS F 17 G 1 = vO F 17 (sn F 17 1) (vO F 17 0 G).2.2.2.2 := rfl
  have s2 : GS F 17 G 2 = (vO F 17 (sn F 17 1) (vO F 17 0 G).2.2.2.2).2.2.2.2 := rfl
  refine ⟨fun q => ?_, hk, by rw [s0, v0], by rw [s1, f4, v0, v1], by rw [s2, f4, v0, v1]⟩
  have h : oE F 17 (sn F 17 (kL F 17)) = (17, 0) := by rw [hk, f4, f3]
  have q2 : ¬ (oE F 17 (sn F 17 (kL F 17))).2 = 0 ∨ (oE F 17 (sn F 17 (kL F 17))).1 < 17 := q
  rw [h] at q2
  exact q2.elim (fun q => q rfl) (fun q => absurd q (by decide))
theorem t2_all {a b : Nat} (ha : a < 26) (hb : b < 26) (In G : Nat → Nat) : ¬ mal (wrL (T2 a b) In 0) 17 ∧ kL (wrL (T2 a b) In 0) 17 = 1 ∧ vS (wrL (T2 a b) In 0) 17 G 0 = vTell G (nI 0) (nI 1) 1 (nI a) ∧ vS (wrL (T2 a b) In 0) 17 G 1 = vTell (vTell G (nI 0) (nI 1) 1 (nI a)).2.2.2.2 (nI 0) (nI 1) 1 (nI b) ∧ GS (wrL (T2 a b) In 0) 17 G 2 = (vTell (vTell G (nI 0) (nI 1) 1 (nI a)).2.2.2.2 (nI 0) (nI 1) 1 (nI b)).2.2.2.2 := by
  have hc : hrx (wrL (T2 a b) In 0) 17 = hrx (wrL (T2 a b) (fun _ => 0) 0) 17 := hrx_w (T2 a b) In
  have f := t2_f1 a ha b hb
  have f0 := t2_f2 a ha b hb
  generalize wrL (T2 a b) (fun _ => 0) 0 = F at hc f f0
  generalize wrL (T2 a b) In 0 = F2 at hc ⊢
  obtain ⟨g1, g2, g3, g4, g5⟩ := t2_gen f f0 G
  exact ⟨fun q => g1 ((mal_hc hc).mp q), (kL_hc hc).trans g2, (vS_hc hc G 0).trans g3, (vS_hc hc G 1).trans g4, (GS_hc hc G 2).trans g5⟩
/-- T2 with another ending and then the one that was: all is as it was -/
theorem x1_all {G : Nat → Nat} {w : Nat} (hw : G 11 = w) (h26 : w < 26) (In : Nat → Nat) : ¬ mal (wrL (T2 (oW w) w) In 0) 17 ∧ kL (wrL (T2 (oW w) w) In 0) 17 = 1 ∧ rS (wrL (T2 (oW w) w) In 0) 17 G = 2 ∧ GS (wrL (T2 (oW w) w) In 0) 17 G 2 = G := by
  obtain ⟨h1, h2, h3, h4, h5⟩ := t2_all (oW_lt w).1 h26 In G
  have v0 : vTell G (nI 0) (nI 1) 1 (nI (oW w)) = vOk (nI w) (va_up G 11 (oW w)) := vT_ok hw h26 (oW_lt w).1 (oW_ne w)
  have v1 : vTell (va_up G 11 (oW w)) (nI 0) (nI 1) 1 (nI w) = vOk (nI (oW w)) (va_up (va_up G 11 (oW w)) 11 w) := vT_ok (if_pos rfl) (oW_lt w).1 h26 (Ne.symm (oW_ne w))
  rw [v0] at h3 h4 h5
  rw [show (vOk (nI w) (va_up G 11 (oW w))).2.2.2.2 = va_up G 11 (oW w) from rfl, v1] at h4 h5
  refine ⟨h1, h2, ?_, ?_⟩
  · unfold rS
    rw [h2]
    refine fd_none (fun j hj q => q ?_)
    rcases (show j = 0 ∨ j = 1 by omega) with rfl | rfl
    · rw [h3]; rfl
    · rw [h4]; rfl
  · rw [h5]
    exact up_back hw
/-- T2 with another ending twice: the second order can't be -/
theorem x2_all {G : Nat → Nat} {w : Nat} (hw : G 11 = w) (h26 : w < 26) (In : Nat → Nat) : ¬ mal (wrL (T2 (oW w) (oW w)) In 0) 17 ∧ kL (wrL (T2 (oW w) (oW w)) In 0) 17 = 1 ∧ rS (wrL (T2 (oW w) (oW w)) In 0) 17 G = 1 ∧ (vS (wrL (T2 (oW w) (oW w)) In 0) 17 G 1).2.1 = 2 ∧ (vS (wrL (T2 (oW w) (oW w)) In 0) 17 G 1).2.2.1 = nI (oW w) := by
  obtain ⟨h1, h2, h3, h4, h5⟩ := t2_all (oW_lt w).1 (oW_lt w).1 In G
  have v0 : vTell G (nI 0) (nI 1) 1 (nI (oW w)) = vOk (nI w) (va_up G 11 (oW w)) := vT_ok hw h26 (oW_lt w).1 (oW_ne w)
  have v1 : vTell (va_up G 11 (oW w)) (nI 0) (nI 1) 1 (nI (oW w)) = vRef 2 2 (nI (oW w)) (va_up G 11 (oW w)) := vT_same (if_pos rfl) (oW_lt w).1
  rw [v0] at h3 h4
  rw [show (vOk (nI w) (va_up G 11 (oW w))).2.2.2.2 = va_up G 11 (oW w) from rfl, v1] at h4
  refine ⟨h1, h2, ?_, by rw [h4]; rfl, by rw [h4]; rfl⟩
  unfold rS
  rw [h2]
  refine fd_some (fun j hj q => q ?_) ?_ (by decide)
  · rw [show j = 0 by omega, h3]; rfl
  · rw [h4]
    show ¬ (2 : Nat) = 0
    decide
/-- the knock at the tenth door -/
theorem t3_gen {F G : Nat → Nat} (f : t3P F) (h8 : G 0 ≤ 8) : ¬ mal F 10 ∧ kL F 10 = 0 ∧ vS F 10 G 0 = vErr 1 G := by
  obtain ⟨f1, f2, f3, f4⟩ := f
  have hk : kL F 10 = 0 := kL_0 f1
  have s0 : vS F 10 G 0 = vO F 10 0 G := rfl
  have n0 : sn F 10 0 = 0 := rfl
  refine ⟨fun q => ?_, hk, ?_⟩
  · have h : oE F 10 (sn F 10 (kL F 10)) = (10, 0) := by rw [hk, n0, f2]
    have q2 : ¬ (oE F 10 (sn F 10 (kL F 10))).2 = 0 ∨ (oE F 10 (sn F 10 (kL F 10))).1 < 10 := q
    rw [h] at q2
    exact q2.elim (fun q => q rfl) (fun q => absurd q (by decide))
  · rw [s0]
    unfold vO
    rw [f3, f4]
    show vKnock G (nI 9) _ _ _ = _
    unfold vKnock
    rw [if_pos (fun q => by
      have h1 := q.2
      rw [nI_toInt (by decide)] at h1
      omega)]
theorem x3_all {G : Nat → Nat} (h8 : G 0 ≤ 8) (In : Nat → Nat) : ¬ mal (wrL T3 In 0) 10 ∧ kL (wrL T3 In 0) 10 = 0 ∧ rS (wrL T3 In 0) 10 G = 0 ∧ (vS (wrL T3 In 0) 10 G 0).2.1 = 0 := by
  have hc : hrx (wrL T3 In 0) 10 = hrx (wrL T3 (fun _ => 0) 0) 10 := hrx_w T3 In
  have f := t3_f
  generalize wrL T3 (fun _ => 0) 0 = F at hc f
  generalize wrL T3 In 0 = F2 at hc ⊢
  obtain ⟨g1, g2, g3⟩ := t3_gen f h8
  have hk := (kL_hc hc).trans g2
  have hv := (vS_hc hc G 0).trans g3
  refine ⟨fun q => g1 ((mal_hc hc).mp q), hk, ?_, by rw [hv]; rfl⟩
  unfold rS
  rw [hk]
  refine fd_some (fun j hj => absurd hj (Nat.not_lt_zero j)) ?_ (by decide)
  rw [hv]
  show ¬ (1 : Nat) = 0
  decide
/-! the malformed texts -/
abbrev flP (n pl : Nat) (E : Nat × Nat) : Prop := (¬ E.2 = 0 ∨ E.1 < n) ∧ E.1 = pl
theorem fl_of {T : List Nat} (n : Nat) {pl : Nat} (h0 : ∀ j, j < n → gd (wrL T (fun _ => 0) 0) (0 + T.length) j) (h1 : ¬ gd (wrL T (fun _ => 0) 0) (0 + T.length) n) (hn : n < 31) (hz : flP (0 + T.length) pl (oE (wrL T (fun _ => 0) 0) (0 + T.length) (sn (wrL T (fun _ => 0) 0) (0 + T.length) n))) (In : Nat → Nat) : mal (wrL T In 0) (0 + T.length) ∧ (oE (wrL T In 0) (0 + T.length) (sn (wrL T In 0) (0 + T.length) (kL (wrL T In 0) (0 + T.length)))).1 = pl := by
  have hc := hrx_w T In
  have hk := kL_n n h0 h1 hn
  refine ⟨(mal_hc hc).mpr ?_, ?_⟩
  · show ¬ (oE _ _ (sn _ _ (kL _ _))).2 = 0 ∨ (oE _ _ (sn _ _ (kL _ _))).1 < _
    rw [hk]
    exact hz.1
  · rw [kL_hc hc, hk, sn_hc hc, oE_hc hc]
    exact hz.2
theorem fl_0 (In : Nat → Nat) : mal (wrL [115, 120] In 0) (0 + [115, 120].length) ∧ (oE (wrL [115, 120] In 0) (0 + [115, 120].length) (sn (wrL [115, 120] In 0) (0 + [115, 120].length) (kL (wrL [115, 120] In 0) (0 + [115, 120].length)))).1 = 1 := fl_of (T := [115, 120]) 0 (by decide +kernel) (by decide +kernel) (by decide) (by decide +kernel) In
theorem fl_1 (In : Nat → Nat) : mal (wrL [100, 111, 111, 114, 48, 111, 115, 49] In 0) (0 + [100, 111, 111, 114, 48, 111, 115, 49].length) ∧ (oE (wrL [100, 111, 111, 114, 48, 111, 115, 49] In 0) (0 + [100, 111, 111, 114, 48, 111, 115, 49].length) (sn (wrL [100, 111, 111, 114, 48, 111, 115, 49] In 0) (0 + [100, 111, 111, 114, 48, 111, 115, 49].length) (kL (wrL [100, 111, 111, 114, 48, 111, 115, 49] In 0) (0 + [100, 111, 111, 114, 48, 111, 115, 49].length)))).1 = 8 := fl_of (T := [100, 111, 111, 114, 48, 111, 115, 49]) 0 (by decide +kernel) (by decide +kernel) (by decide) (by decide +kernel) In
theorem fl_2 (In : Nat → Nat) : mal (wrL [115, 101, 116, 48, 64, 120] In 0) (0 + [115, 101, 116, 48, 64, 120].length) ∧ (oE (wrL [115, 101, 116, 48, 64, 120] In 0) (0 + [115, 101, 116, 48, 64, 120].length) (sn (wrL [115, 101, 116, 48, 64, 120] In 0) (0 + [115, 101, 116, 48, 64, 120].length) (kL (wrL [115, 101, 116, 48, 64, 120] In 0) (0 + [115, 101, 116, 48, 64, 120].length)))).1 = 5 := fl_of (T := [115, 101, 116, 48, 64, 120]) 0 (by decide +kernel) (by decide +kernel) (by decide) (by decide +kernel) In
theorem fl_3 (In : Nat → Nat) : mal (wrL [107, 120] In 0) (0 + [107, 120].length) ∧ (oE (wrL [107, 120] In 0) (0 + [107, 120].length) (sn (wrL [107, 120] In 0) (0 + [107, 120].length) (kL (wrL [107, 120] In 0) (0 + [107, 120].length)))).1 = 1 := fl_of (T := [107, 120]) 0 (by decide +kernel) (by decide +kernel) (by decide) (by decide +kernel) In
theorem fl_4 (In : Nat → Nat) : mal (wrL ([] : List Nat) In 0) (0 + ([] : List Nat).length) ∧ (oE (wrL ([] : List Nat) In 0) (0 + ([] : List Nat).length) (sn (wrL ([] : List Nat) In 0) (0 + ([] : List Nat).length) (kL (wrL ([] : List Nat) In 0) (0 + ([] : List Nat).length)))).1 = 0 := fl_of (T := ([] : List Nat)) 0 (by decide +kernel) (by decide +kernel) (by decide) (by decide +kernel) In
theorem fl_5 (In : Nat → Nat) : mal (wrL [115, 105, 108, 108, 65, 59] In 0) (0 + [115, 105, 108, 108, 65, 59].length) ∧ (oE (wrL [115, 105, 108, 108, 65, 59] In 0) (0 + [115, 105, 108, 108, 65, 59].length) (sn (wrL [115, 105, 108, 108, 65, 59] In 0) (0 + [115, 105, 108, 108, 65, 59].length) (kL (wrL [115, 105, 108, 108, 65, 59] In 0) (0 + [115, 105, 108, 108, 65, 59].length)))).1 = 6 := fl_of (T := [115, 105, 108, 108, 65, 59]) 1 (by decide +kernel) (by decide +kernel) (by decide) (by decide +kernel) In
theorem fl_6 (In : Nat → Nat) : mal (wrL [107, 110, 111, 99, 107, 48, 58, 111, 120] In 0) (0 + [107, 110, 111, 99, 107, 48, 58, 111, 120].length) ∧ (oE (wrL [107, 110, 111, 99, 107, 48, 58, 111, 120] In 0) (0 + [107, 110, 111, 99, 107, 48, 58, 111, 120].length) (sn (wrL [107, 110, 111, 99, 107, 48, 58, 111, 120] In 0) (0 + [107, 110, 111, 99, 107, 48, 58, 111, 120].length) (kL (wrL [107, 110, 111, 99, 107, 48, 58, 111, 120] In 0) (0 + [107, 110, 111, 99, 107, 48, 58, 111, 120].length)))).1 = 8 := fl_of (T := [107, 110, 111, 99, 107, 48, 58, 111, 120]) 0 (by decide +kernel) (by decide +kernel) (by decide) (by decide +kernel) In
theorem fl_7 (In : Nat → Nat) : mal (wrL [102, 114, 101, 101, 48] In 0) (0 + [102, 114, 101, 101, 48].length) ∧ (oE (wrL [102, 114, 101, 101, 48] In 0) (0 + [102, 114, 101, 101, 48].length) (sn (wrL [102, 114, 101, 101, 48] In 0) (0 + [102, 114, 101, 101, 48].length) (kL (wrL [102, 114, 101, 101, 48] In 0) (0 + [102, 114, 101, 101, 48].length)))).1 = 5 := fl_of (T := [102, 114, 101, 101, 48]) 0 (by decide +kernel) (by decide +kernel) (by decide) (by decide +kernel) In
theorem fl_8 (In : Nat → Nat) : mal (wrL [101, 110, 100, 48, 79, 115, 61, 65] In 0) (0 + [101, 110, 100, 48, 79, 115, 61, 65].length) ∧ (oE (wrL [101, 110, 100, 48, 79, 115, 61, 65] In 0) (0 + [101, 110, 100, 48, 79, 115, 61, 65].length) (sn (wrL [101, 110, 100, 48, 79, 115, 61, 65] In 0) (0 + [101, 110, 100, 48, 79, 115, 61, 65].length) (kL (wrL [101, 110, 100, 48, 79, 115, 61, 65] In 0) (0 + [101, 110, 100, 48, 79, 115, 61, 65].length)))).1 = 7 := fl_of (T := [101, 110, 100, 48, 79, 115, 61, 65]) 0 (by decide +kernel) (by decide +kernel) (by decide) (by decide +kernel) In
theorem fl_9 (In : Nat → Nat) : mal (wrL [107, 101, 121, 48, 111, 49] In 0) (0 + [107, 101, 121, 48, 111, 49].length) ∧ (oE (wrL [107, 101, 121, 48, 111, 49] In 0) (0 + [107, 101, 121, 48, 111, 49].length) (sn (wrL [107, 101, 121, 48, 111, 49] In 0) (0 + [107, 101, 121, 48, 111, 49].length) (kL (wrL [107, 101, 121, 48, 111, 49] In 0) (0 + [107, 101, 121, 48, 111, 49].length)))).1 = 5 := fl_of (T := [107, 101, 121, 48, 111, 49]) 0 (by decide +kernel) (by decide +kernel) (by decide) (by decide +kernel) In
theorem fl_10 (In : Nat → Nat) : mal (wrL [122] In 0) (0 + [122].length) ∧ (oE (wrL [122] In 0) (0 + [122].length) (sn (wrL [122] In 0) (0 + [122].length) (kL (wrL [122] In 0) (0 + [122].length)))).1 = 0 := fl_of (T := [122]) 0 (by decide +kernel) (by decide +kernel) (by decide) (by decide +kernel) In
