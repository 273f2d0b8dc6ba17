/-! a whole text read: the orders' places, their numbers, their verdicts -/
def nv9 (l : List Nat) : Nat := match l with
  | [] => 0
  | w :: l => if w < 200 then nv9 l else nv9 l + 1
theorem st1_fl {F : Nat → Nat} {ty w : Nat} {E : Nat × Nat} (h : (st1 F ty w E).2 = 0) : E.2 = 0 ∧ okI w (hrx F ty E.1) ∧ st1 F ty w E = (E.1 + 1, 0) := by
  unfold st1 at h ⊢
  by_cases q : E.2 = 0 ∧ okI w (hrx F ty E.1)
  · exact ⟨q.1, q.2, if_pos q⟩
  · rw [if_neg q] at h; exact absurd h (by decide : ¬ (1 : Nat) = 0)
theorem rn_fl {F : Nat → Nat} {ty : Nat} : ∀ {l : List Nat} {E : Nat × Nat}, (rn F ty l E).2 = 0 → E.2 = 0 ∧ rn F ty l E = (E.1 + l.length, 0)
  | [], E, h => ⟨h, by show E = _; exact Prod.ext rfl h⟩
  | w :: l, E, h => by
    have h1 := rn_fl (l := l) (E := st1 F ty w E) h
    have h2 := st1_fl h1.1
    refine ⟨h2.1, ?_⟩
    show rn F ty l (st1 F ty w E) = _
    rw [h1.2, h2.2.2]
    show (E.1 + 1 + l.length, 0) = (E.1 + (l.length + 1), 0)
    rw [show E.1 + 1 + l.length = E.1 + (l.length + 1) by omega]
theorem rn_ap {F : Nat → Nat} {ty : Nat} : ∀ {l l2 : List Nat} {E : Nat × Nat}, rn F ty (l ++ l2) E = rn F ty l2 (rn F ty l E)
  | [], _, _ => rfl
  | _ :: l, l2, _ => rn_ap (l := l) (l2 := l2)
/-- what a sign of a text that was read is -/
theorem rn_okI {F : Nat → Nat} {ty w : Nat} {l l2 : List Nat} {E : Nat × Nat} (h : (rn F ty (l ++ w :: l2) E).2 = 0) : okI w (hrx F ty (E.1 + l.length)) := by
  rw [rn_ap] at h
  have h1 := (rn_fl (l := l2) (E := st1 F ty w (rn F ty l E)) h).1
  have h2 := st1_fl h1
  have h3 := rn_fl h2.1
  rw [h3.2] at h2
  exact h2.2.1
theorem rn_e {F : Nat → Nat} {ty : Nat} (hty : ty ≤ 60) : ∀ {l : List Nat} {E : Nat × Nat}, eOk E → eOk (rn F ty l E)
  | [], _, h => h
  | _ :: l, _, h => rn_e hty (l := l) (st1_e hty h)
theorem upd_at (T : Nat → Int32) (n : Nat) (v : Int32) : upd T n v n = v := by simp [upd]
theorem upd_ne (T : Nat → Int32) {n j : Nat} (v : Int32) (h : ¬ j = n) : upd T n v j = T j := by simp [upd, h]
theorem go_out {F : Nat → Nat} {ty : Nat} : ∀ {l : List Nat} {E : Nat × Nat} {T : Nat → Int32} {n j : Nat}, (j < n ∨ n + nv9 l ≤ j) → (go F ty l E T n).2 j = T j
  | [], _, _, _, _, _ => rfl
  | w :: l, E, T, n, j, h => by
    unfold go
    unfold nv9 at h
    by_cases hw : w < 200
    · rw [if_pos hw] at h ⊢
      exact go_out h
    · rw [if_neg hw] at h ⊢
      rw [go_out (by omega), upd_ne _ _ (by omega)]
theorem go_val {F : Nat → Nat} {ty w : Nat} (hw : ¬ w < 200) {l2 : List Nat} : ∀ {l : List Nat} {E : Nat × Nat} {T : Nat → Int32} {n : Nat}, (go F ty (l ++ w :: l2) E T n).2 (n + nv9 l) = vI w (hrx F ty (rn F ty l E).1)
  | [], E, T, n => by
    show (go F ty (w :: l2) E T n).2 n = _
    unfold go
    rw [if_neg hw, go_out (Or.inl (by omega)), upd_at]
    rfl
  | c :: l, E, T, n => by
    show (go F ty (c :: (l ++ w :: l2)) E T n).2 (n + nv9 (c :: l)) = _
    unfold go
    unfold nv9
    by_cases hc : c < 200
    · rw [if_pos hc, if_pos hc]
      exact go_val hw (l := l)
    · rw [if_neg hc, if_neg hc, show n + (nv9 l + 1) = n + 1 + nv9 l by omega]
      exact go_val hw (l := l)
/-- the end of an order that is read from the place sp on, and whether it is wrong -/
def oE (F : Nat → Nat) (ty sp : Nat) : Nat × Nat := if kd F ty sp < 9 then rn F ty (pat (kd F ty sp)) (sp, 0) else (sp, 1)
/-- its numbers -/
def oV (F : Nat → Nat) (ty sp i : Nat) : Int32 := (rdO F ty sp (fun _ => 0) 0).2 i
theorem rdO_E {F : Nat → Nat} {ty sp : Nat} {T : Nat → Int32} {k : Nat} : (rdO F ty sp T k).1 = oE F ty sp := by
  unfold rdO oE
  split
  · exact go_fst _ _ _ _
  · rfl
theorem oE_e {F : Nat → Nat} {ty sp : Nat} (hty : ty ≤ 60) (hsp : sp ≤ ty) : eOk (oE F ty sp) := by
  unfold oE
  split
  · exact rn_e hty ⟨by show sp ≤ 60; omega, Nat.zero_le _⟩
  · exact ⟨by show sp ≤ 60; omega, Nat.le_refl _⟩
theorem pat_nv : ∀ k, k < 9 → nv9 (pat k) ≤ 5 ∧ 5 ≤ (pat k).length := by decide
theorem oE_ok {F : Nat → Nat} {ty sp : Nat} (h : (oE F ty sp).2 = 0) : kd F ty sp < 9 ∧ (rn F ty (pat (kd F ty sp)) (sp, 0)).2 = 0 ∧ oE F ty sp = (sp + (pat (kd F ty sp)).length, 0) := by
  unfold oE at h ⊢
  by_cases q : kd F ty sp < 9
  · rw [if_pos q] at h ⊢
    exact ⟨q, h, (rn_fl h).2⟩
  · rw [if_neg q] at h; exact absurd h (by decide : ¬ (1 : Nat) = 0)
theorem rdO_out {F : Nat → Nat} {ty sp : Nat} {T : Nat → Int32} {k j : Nat} (h : j < k ∨ k + 6 ≤ j) : (rdO F ty sp T k).2 j = T j := by
  unfold rdO
  split
  · rename_i q
    have h1 := pat_nv _ q
    rw [go_out (by omega), upd_ne _ _ (by omega)]
  · exact upd_ne _ _ (by omega)
theorem rdO_0 {F : Nat → Nat} {ty sp : Nat} {T : Nat → Int32} {k : Nat} (h : kd F ty sp < 9) : (rdO F ty sp T k).2 k = nI (oc (kd F ty sp)) := by
  unfold rdO
  rw [if_pos h, go_out (Or.inl (by omega)), upd_at]
theorem rdO_val {F : Nat → Nat} {ty sp w : Nat} {T : Nat → Int32} {k : Nat} (h : kd F ty sp < 9) (hw : ¬ w < 200) {l l2 : List Nat} (hp : pat (kd F ty sp) = l ++ w :: l2) : (rdO F ty sp T k).2 (k + 1 + nv9 l) = vI w (hrx F ty (rn F ty l (sp, 0)).1) := by
  unfold rdO
  rw [if_pos h, hp, go_val hw]
/-- numbers that an order of the kind k has -/
theorem rdO_same {F : Nat → Nat} {ty sp : Nat} {T T' : Nat → Int32} {k k' : Nat} (h : kd F ty sp < 9) : ∀ i, i < nv9 (pat (kd F ty sp)) → (rdO F ty sp T k).2 (k + 1 + i) = (rdO F ty sp T' k').2 (k' + 1 + i) := by
  have key : ∀ (l : List Nat) (E : Nat × Nat) (T T' : Nat → Int32) (n n' i : Nat), i < nv9 l → (go F ty l E T n).2 (n + i) = (go F ty l E T' n').2 (n' + i) := by
    intro l
    induction l with
    | nil => intro _ _ _ _ _ i hi; exact absurd hi (Nat.not_lt_zero _)
    | cons w l ih =>
      intro E T T' n n' i hi
      unfold go
      unfold nv9 at hi
      by_cases hw : w < 200
      · rw [if_pos hw] at hi; rw [if_pos hw, if_pos hw]; exact ih _ _ _ _ _ _ hi
      · rw [if_neg hw] at hi; rw [if_neg hw, if_neg hw]
        cases i with
        | zero => exact ((go_out (Or.inl (Nat.lt_succ_self n))).trans (upd_at _ _ _)).trans ((go_out (Or.inl (Nat.lt_succ_self n'))).trans (upd_at _ _ _)).symm
        | succ i =>
          rw [show n + (i + 1) = n + 1 + i by omega, show n' + (i + 1) = n' + 1 + i by omega]
          exact ih _ _ _ _ _ _ (by omega)
  intro i hi
  unfold rdO
  rw [if_pos h, if_pos h]
  exact key _ _ _ _ _ _ _ hi
/-- an order's verdict over a house -/
def vO (F : Nat → Nat) (ty sp : Nat) (G : Nat → Nat) : V := vOrd (kd F ty sp) (oV F ty sp 1) (oV F ty sp 2) (oV F ty sp 3) (oV F ty sp 4) (oV F ty sp 5) G
theorem vOrd_same (G : Nat → Nat) (k : Nat) (f g : Nat → Int32) (h : ∀ i, i < nv9 (pat k) → f i = g i) (hk : k < 9) : vOrd k (f 0) (f 1) (f 2) (f 3) (f 4) G = vOrd k (g 0) (g 1) (g 2) (g 3) (g 4) G := by
  rcases (show k = 0 ∨ k = 1 ∨ k = 2 ∨ k = 3 ∨ k = 4 ∨ k = 5 ∨ k = 6 ∨ k = 7 ∨ k = 8 by omega) with rfl | rfl | rfl | rfl | rfl | rfl | rfl | rfl | rfl
  · rw [h 0 (by decide), h 1 (by decide), h 2 (by decide), h 3 (by decide), h 4 (by decide)]
  · show vSill G (f 0) = vSill G (g 0); rw [h 0 (by decide)]
  · show vGovern G (f 0) (f 1) = vGovern G (g 0) (g 1); rw [h 0 (by decide), h 1 (by decide)]
  · show vSet G (f 0) (f 1) = vSet G (g 0) (g 1); rw [h 0 (by decide), h 1 (by decide)]
  · show vTell G (f 0) (f 1) (tN (f 2)) (f 3) = vTell G (g 0) (g 1) (tN (g 2)) (g 3); rw [h 0 (by decide), h 1 (by decide), h 2 (by decide), h 3 (by decide)]
  · show vKey G (f 0) (f 1) = vKey G (g 0) (g 1); rw [h 0 (by decide), h 1 (by decide)]
  · show vKnock G (f 0) (f 1) (tN (f 2)) (f 3) = vKnock G (g 0) (g 1) (tN (g 2)) (g 3); rw [h 0 (by decide), h 1 (by decide), h 2 (by decide), h 3 (by decide)]
  · show vShut G (f 0) = vShut G (g 0); rw [h 0 (by decide)]
  · show vFree G (f 0) (f 1) = vFree G (g 0) (g 1); rw [h 0 (by decide), h 1 (by decide)]
/-- the place of the n-th order, if all ahead of it are well formed -/
def sn (F : Nat → Nat) (ty : Nat) : Nat → Nat
  | 0 => 0
  | n + 1 => (oE F ty (sn F ty n)).1 + 1
/-- the numbers of the first n orders -/
def Tn (F : Nat → Nat) (ty : Nat) (To : Nat → Int32) : Nat → Nat → Int32
  | 0 => To
  | n + 1 => (rdO F ty (sn F ty n) (Tn F ty To n) (6 * n)).2
abbrev gd (F : Nat → Nat) (ty n : Nat) : Prop := (oE F ty (sn F ty n)).2 = 0 ∧ hrx F ty (oE F ty (sn F ty n)).1 = nI 59
/-- the last order's number -/
def kL (F : Nat → Nat) (ty : Nat) : Nat := fd (fun j => ¬ gd F ty j) 31
abbrev oL (F : Nat → Nat) (ty : Nat) : Nat × Nat := oE F ty (sn F ty (kL F ty))
abbrev mal (F : Nat → Nat) (ty : Nat) : Prop := ¬ (oL F ty).2 = 0 ∨ (oL F ty).1 < ty
/-- the houses behind the first orders -/
def GS (F : Nat → Nat) (ty : Nat) (G : Nat → Nat) : Nat → Nat → Nat
  | 0 => G
  | n + 1 => (vO F ty (sn F ty n) (GS F ty G n)).2.2.2.2
def vS (F : Nat → Nat) (ty : Nat) (G : Nat → Nat) (n : Nat) : V := vO F ty (sn F ty n) (GS F ty G n)
/-- the first refused order, or as many as there are -/
def rS (F : Nat → Nat) (ty : Nat) (G : Nat → Nat) : Nat := fd (fun k => ¬ (vS F ty G k).1 = 0) (kL F ty + 1)
theorem sn_ok {F : Nat → Nat} {ty : Nat} : ∀ {n}, (∀ j, j < n → gd F ty j) → 2 * n ≤ sn F ty n ∧ sn F ty n ≤ ty
  | 0, _ => ⟨by show 0 ≤ 0; omega, Nat.zero_le _⟩
  | n + 1, h => by
    have h1 := sn_ok (n := n) (fun j hj => h j (by omega))
    have h2 := h n (by omega)
    have h3 := oE_ok h2.1
    have h4 := pat_nv _ h3.1
    have h5 : (oE F ty (sn F ty n)).1 < ty := hr_lt (by rw [h2.2]; decide)
    have h6 := congrArg Prod.fst h3.2.2
    show 2 * (n + 1) ≤ (oE F ty (sn F ty n)).1 + 1 ∧ (oE F ty (sn F ty n)).1 + 1 ≤ ty
    have h7 : (oE F ty (sn F ty n)).1 = sn F ty n + (pat (kd F ty (sn F ty n))).length := h6
    omega
theorem Tn_at {F : Nat → Nat} {ty : Nat} {To : Nat → Int32} {k j : Nat} (hj : j < 6 * (k + 1)) : ∀ n, k < n → Tn F ty To n j = Tn F ty To (k + 1) j
  | 0, h => absurd h (by omega)
  | n + 1, h => by
    by_cases e : n = k
    · subst e; rfl
    · rw [show Tn F ty To (n + 1) j = Tn F ty To n j from rdO_out (by omega)]
      exact Tn_at hj n (by omega)
theorem Tn_0 {F : Nat → Nat} {ty : Nat} {To : Nat → Int32} {k n : Nat} (h : k < n) (hk : kd F ty (sn F ty k) < 9) : Tn F ty To n (6 * k) = nI (oc (kd F ty (sn F ty k))) := by
  rw [Tn_at (by omega) n h]
  exact rdO_0 hk
theorem vO_T {F : Nat → Nat} {ty : Nat} {To : Nat → Int32} {k n : Nat} {G : Nat → Nat} (h : k < n) (hk : kd F ty (sn F ty k) < 9) :
    vOrd (kd F ty (sn F ty k)) (Tn F ty To n (6 * k + 1)) (Tn F ty To n (6 * k + 2)) (Tn F ty To n (6 * k + 3)) (Tn F ty To n (6 * k + 4)) (Tn F ty To n (6 * k + 5)) G = vO F ty (sn F ty k) G := by
  refine vOrd_same G _ (fun i => Tn F ty To n (6 * k + 1 + i)) (fun i => oV F ty (sn F ty k) (0 + 1 + i)) (fun i hi => ?_) hk
  have h5 := (pat_nv _ hk).1
  show Tn F ty To n (6 * k + 1 + i) = _
  rw [Tn_at (by omega) n h]
  exact rdO_same hk i hi
theorem vN_01 {x : Int32} (h : ¬ vN x = (-1)) : vN x = nI (tN (vN x)) ∧ tN (vN x) ≤ 1 := by
  unfold vN at h ⊢
  split
  · exact ⟨by decide, by decide⟩
  · rename_i h1
    rw [if_neg h1] at h
    split
    · exact ⟨by decide, by decide⟩
    · rename_i h2; rw [if_neg h2] at h; exact absurd rfl h
/-- the number of an order that has one -/
theorem rdO_z {F : Nat → Nat} {ty sp : Nat} {T : Nat → Int32} {k : Nat} (h0 : (oE F ty sp).2 = 0) (hq : kd F ty sp = 0 ∨ kd F ty sp = 4 ∨ kd F ty sp = 6) : (rdO F ty sp T k).2 (k + 3) = nI (tN ((rdO F ty sp T k).2 (k + 3))) ∧ tN ((rdO F ty sp T k).2 (k + 3)) ≤ 1 := by
  have h := oE_ok h0
  have key : ∀ (l l2 : List Nat), pat (kd F ty sp) = l ++ 203 :: l2 → nv9 l = 2 → (rdO F ty sp T k).2 (k + 3) = nI (tN ((rdO F ty sp T k).2 (k + 3))) ∧ tN ((rdO F ty sp T k).2 (k + 3)) ≤ 1 := by
    intro l l2 hp hn
    have h1 := rdO_val (T := T) (k := k) h.1 (by decide) hp
    rw [hn, show k + 1 + 2 = k + 3 by omega] at h1
    rw [h1]
    have h2 := h.2.1
    rw [hp] at h2
    have h3 := rn_okI h2
    have h4 : (rn F ty l (sp, 0)).1 = sp + l.length := by
      rw [rn_ap] at h2
      have h5 := st1_fl (rn_fl (l := l2) (E := st1 F ty 203 (rn F ty l (sp, 0))) h2).1
      exact congrArg Prod.fst (rn_fl h5.1).2
    rw [h4]
    exact vN_01 ((okI_val (by decide) (by decide)).mp h3)
  rcases hq with e | e | e
  · exact key [100, 111, 111, 114, 200, 202] [200, 200] (by rw [e]; rfl) rfl
  · exact key [101, 110, 100, 200, 204] [61, 205] (by rw [e]; rfl) rfl
  · exact key [107, 110, 111, 99, 107, 200, 58, 202] [204] (by rw [e]; rfl) rfl
theorem Tn_z {F : Nat → Nat} {ty : Nat} {To : Nat → Int32} {k n : Nat} (h : k < n) (h0 : (oE F ty (sn F ty k)).2 = 0) (hq : kd F ty (sn F ty k) = 0 ∨ kd F ty (sn F ty k) = 4 ∨ kd F ty (sn F ty k) = 6) : Tn F ty To n (6 * k + 3) = nI (tN (Tn F ty To n (6 * k + 3))) ∧ tN (Tn F ty To n (6 * k + 3)) ≤ 1 := by
  rw [Tn_at (by omega) n h]
  exact rdO_z h0 hq
theorem vOrd_G {G : Nat → Nat} {k : Nat} {a b c d e : Int32} (h : ¬ (vOrd k a b c d e G).1 = 0) : (vOrd k a b c d e G).2.2.2.2 = G ∧ (vOrd k a b c d e G).2.2.2.1 = 0 := by
  unfold vOrd at h ⊢
  split at h
  · exact vDoor_G h
  · exact vSill_G h
  · exact vGovern_G h
  · exact vSet_G h
  · exact vTell_G h
  · exact vKey_G h
  · exact vKnock_G h
  · exact vShut_G h
  · exact vFree_G h
theorem vErr_w {n : Nat} {G : Nat → Nat} : (vErr n G).2.1 = 0 := rfl
theorem vOrd_w {G : Nat → Nat} {k : Nat} {a b c d e : Int32} (h : (vOrd k a b c d e G).1 = 0) : (vOrd k a b c d e G).2.1 = 0 := by
  revert h
  unfold vOrd
  split
  · unfold vDoor; repeat' split
    all_goals first | exact fun _ => rfl | exact fun h => absurd h (by simp [vErr, vRef])
  · unfold vSill; repeat' split
    all_goals first | exact fun _ => rfl | exact fun h => absurd h (by simp [vErr, vRef])
  · unfold vGovern; repeat' split
    all_goals first | exact fun _ => rfl | exact fun h => absurd h (by simp [vErr, vRef])
  · unfold vSet; repeat' split
    all_goals first | exact fun _ => rfl | exact fun h => absurd h (by simp [vErr, vRef])
  · unfold vTell; repeat' split
    all_goals first | exact fun _ => rfl | exact fun h => absurd h (by simp [vErr, vRef])
  · unfold vKey; repeat' split
    all_goals first | exact fun _ => rfl | exact fun h => absurd h (by simp [vErr, vRef])
  · unfold vKnock; repeat' split
    all_goals first | exact fun _ => rfl | exact fun h => absurd h (by simp [vErr, vRef])
  · unfold vShut; repeat' split
    all_goals first | exact fun _ => rfl | exact fun h => absurd h (by simp [vErr, vRef])
  · unfold vFree; repeat' split
    all_goals first | exact fun _ => rfl | exact fun h => absurd h (by simp [vErr, vRef])
theorem vOrd_n (G : Nat → Nat) (k : Nat) (a b c d e : Int32) : (vOrd k a b c d e G).1 ≤ 3 := by
  unfold vOrd
  split
  · exact vDoor_n _ _ _ _ _ _
  · exact vSill_n _ _
  · exact vGovern_n _ _ _
  · exact vSet_n _ _ _
  · exact vTell_n _ _ _ _ _
  · exact vKey_n _ _ _
  · exact vKnock_n _ _ _ _ _
  · exact vShut_n _ _
  · exact vFree_n _ _ _
theorem gWf_vOrd {b : Nat} {G : Nat → Nat} {k : Nat} {a1 a2 a3 a4 a5 : Int32} (hz : (k = 0 ∨ k = 4 ∨ k = 6) → tN a3 ≤ 1) (h : gWf b G) (h25 : 25 ≤ b) (hb : b + 1 < 2 ^ 20) : gWf (b + 1) (vOrd k a1 a2 a3 a4 a5 G).2.2.2.2 := by
  unfold vOrd
  split
  · exact vWf_vDoor (hz (by decide)) h h25 hb
  · exact vWf_vSill h h25 hb
  · exact vWf_vGovern h h25 hb
  · exact vWf_vSet h h25 hb
  · exact vWf_vTell (hz (by decide)) h h25 hb
  · exact vWf_vKey h h25 hb
  · exact vWf_vKnock h h25 hb
  · exact vWf_vShut h h25 hb
  · exact vWf_vFree h h25 hb
theorem gWf_vO {F : Nat → Nat} {ty sp b : Nat} {G : Nat → Nat} (h0 : (oE F ty sp).2 = 0) (h : gWf b G) (h25 : 25 ≤ b) (hb : b + 1 < 2 ^ 20) : gWf (b + 1) (vO F ty sp G).2.2.2.2 :=
  gWf_vOrd (fun q => (rdO_z (T := fun _ => 0) (k := 0) h0 q).2) h h25 hb
theorem vWy_0 {v : V} {wy : Nat} (h : v.2.1 = 0) : vWy v wy = wy := if_pos h
theorem vWd_0 {v : V} {wd : Int32} (h : v.2.1 = 0) : vWd v wd = wd := if_pos h
theorem kL_le (F : Nat → Nat) (ty : Nat) : kL F ty ≤ 31 := fd_le _ _
/-- all orders ahead of the last are well formed; the last is the first that none follows -/
theorem kL_gd {F : Nat → Nat} {ty : Nat} (hty : ty ≤ 60) : kL F ty < 31 ∧ (∀ j, j < kL F ty → gd F ty j) ∧ ¬ gd F ty (kL F ty) := by
  have h1 : ∀ j, j < kL F ty → gd F ty j := fun j hj => Decidable.not_not.mp (fd_lt hj)
  have h2 := sn_ok h1
  have h3 : kL F ty < 31 := by omega
  exact ⟨h3, h1, fd_at h3⟩
theorem oE_all {F : Nat → Nat} {ty : Nat} (hm : ¬ mal F ty) (hty : ty ≤ 60) : ∀ j, j < kL F ty + 1 → (oE F ty (sn F ty j)).2 = 0 := by
  intro j hj
  by_cases e : j = kL F ty
  · rw [e]; exact Decidable.not_not.mp (fun q => hm (Or.inl q))
  · exact ((kL_gd hty).2.1 j (by omega)).1
theorem gWf_GS {F : Nat → Nat} {ty b : Nat} {G : Nat → Nat} (hm : ¬ mal F ty) (hty : ty ≤ 60) (h : gWf b G) (h25 : 25 ≤ b) (hb : b + 32 < 2 ^ 20) : ∀ k, k ≤ kL F ty + 1 → gWf (b + k) (GS F ty G k)
  | 0, _ => h
  | k + 1, hk => by
    have h1 := (kL_gd (F := F) hty).1
    exact gWf_vO (b := b + k) (oE_all hm hty k (by omega)) (gWf_GS hm hty h h25 hb k (by omega)) (by omega) (by omega)
