theorem cmp_refl (i : Int) : compare i i = Ordering.eq := by simp [compare, compareOfLessAndEq]
theorem dc_same {x : UInt64} (h : vf_n64 x) : Op.cmpValue (FP.dcmp x x) .l = 0 := by
  unfold vf_n64 at h
  rw [UInt64.le_iff_toNat_le, UInt64.toNat_and] at h
  have h3 : (0x7fffffffffffffff : UInt64).toNat = 2 ^ 63 - 1 := by decide
  have h4 : (0x7ff0000000000000 : UInt64).toNat = 9218868437227405312 := by decide
  rw [h3, h4, Nat.and_two_pow_sub_one_eq_mod] at h
  have hd := fq_n64 h
  have key : ∀ d : FP.Core.Datum, d ≠ .nan → FP.Core.order d d = some .eq := by
    intro d hn
    cases d with
    | nan => exact absurd rfl hn
    | inf s => exact congrArg some (cmp_refl _)
    | fin s c q => exact congrArg some (cmp_refl _)
  have e : FP.dcmp x x = some .eq := key _ hd
  rw [e]
  rfl
theorem vDoor_w (G : Nat → Nat) (a g : Int32) (z : Nat) (x y : Int32) : (vDoor G a g z x y).2.1 ≤ 100 := by
  unfold vDoor; repeat' split
  all_goals simp [vErr, vRef, vOk]
theorem vSill_w (G : Nat → Nat) (c : Int32) : (vSill G c).2.1 ≤ 100 := by
  unfold vSill; repeat' split
  all_goals simp [vErr, vRef, vOk]
theorem vGovern_w (G : Nat → Nat) (t c : Int32) : (vGovern G t c).2.1 ≤ 100 := by
  unfold vGovern; repeat' split
  all_goals simp [vErr, vRef, vOk]
theorem vSet_w (G : Nat → Nat) (d t : Int32) : (vSet G d t).2.1 ≤ 100 := by
  unfold vSet; repeat' split
  all_goals simp [vErr, vRef, vOk]
theorem vTell_w (G : Nat → Nat) (a c : Int32) (z : Nat) (x : Int32) : (vTell G a c z x).2.1 ≤ 100 := by
  unfold vTell; repeat' split
  all_goals simp [vErr, vRef, vOk]
theorem vKey_w (G : Nat → Nat) (a g : Int32) : (vKey G a g).2.1 ≤ 100 := by
  unfold vKey; repeat' split
  all_goals simp [vErr, vRef, vOk]
theorem vKnock_w (G : Nat → Nat) (d g : Int32) (z : Nat) (c : Int32) : (vKnock G d g z c).2.1 ≤ 100 := by
  unfold vKnock; repeat' split
  all_goals simp [vErr, vRef, vOk]
theorem vShut_w (G : Nat → Nat) (d : Int32) : (vShut G d).2.1 ≤ 100 := by
  unfold vShut; repeat' split
  all_goals simp [vErr, vRef, vOk]
theorem vFree_w (G : Nat → Nat) (k d : Int32) : (vFree G k d).2.1 ≤ 100 := by
  unfold vFree; repeat' split
  all_goals simp [vErr, vRef, vOk]
theorem vOrd_w100 (G : Nat → Nat) (k : Nat) (a b c d e : Int32) : (vOrd k a b c d e G).2.1 ≤ 100 := by
  unfold vOrd
  split
  · exact vDoor_w _ _ _ _ _ _
  · exact vSill_w _ _
  · exact vGovern_w _ _ _
  · exact vSet_w _ _ _
  · exact vTell_w _ _ _ _ _
  · exact vKey_w _ _ _
  · exact vKnock_w _ _ _ _ _
  · exact vShut_w _ _
  · exact vFree_w _ _ _
section LF2
variable {k : Nat} {G Sv Hi In Le : Nat → Nat} {hs ch ty wy ln : Nat}
theorem lF.clear (hF : lF k G Sv Hi In Le hs ch ty wy ln) (hk : k < 512) : lF (k + 1) gNew Sv Hi In Le hs 0 ty wy ln := by
  obtain ⟨b, h1, h2, h3, h4, h5, h6, h7, h8, h9, h10, h11, h12, h13⟩ := hF
  exact ⟨b, gWf_mono gWf_new h2 h1.1, h2, by omega, by omega, by omega, fun j hj => absurd hj (Nat.not_lt_zero j), h7, h8, h9, h10, h11, h12, h13⟩
theorem lF.undo (hF : lF k G Sv Hi In Le hs ch ty wy ln) (hk : k < 512) : lF (k + 1) (if ch = 0 then G else hAt Hi (ch - 1)) Sv Hi In Le hs (ch - 1) ty wy ln := by
  obtain ⟨b, h1, h2, h3, h4, h5, h6, h7, h8, h9, h10, h11, h12, h13⟩ := hF
  refine ⟨b, ?_, h2, by omega, by omega, by omega, fun j hj => h6 j (by omega), h7, h8, h9, h10, h11, h12, h13⟩
  split
  · exact h1
  · exact h6 _ (by omega)
theorem lF.snapshot (hF : lF k G Sv Hi In Le hs ch ty wy ln) (hk : k < 512) : lF (k + 1) G G Hi In Le 1 ch ty wy ln := by
  obtain ⟨b, h1, h2, h3, h4, h5, h6, h7, h8, h9, h10, h11, h12, h13⟩ := hF
  exact ⟨b, h1, h2, by omega, by omega, h5, h6, Nat.le_refl 1, fun _ => h1, h9, h10, h11, h12, h13⟩
theorem lF.restore (hF : lF k G Sv Hi In Le hs ch ty wy ln) (hk : k < 512) : lF (k + 1) (if hs = 0 then G else Sv) Sv Hi In Le hs (if hs = 0 then ch else 0) ty wy ln := by
  obtain ⟨b, h1, h2, h3, h4, h5, h6, h7, h8, h9, h10, h11, h12, h13⟩ := hF
  refine ⟨b, ?_, h2, by omega, by omega, ?_, ?_, h7, h8, h9, h10, h11, h12, h13⟩
  · split
    · exact h1
    · exact h8 (by omega)
  · split <;> omega
  · intro j hj
    split at hj
    · exact h6 j hj
    · exact absurd hj (Nat.not_lt_zero j)
theorem wrL_lt : ∀ {l : List Nat} {F : Nat → Nat} {n i : Nat}, (∀ c, c ∈ l → c < 65536) → n ≤ i → i < n + l.length → wrL l F n i < 65536
  | [], F, n, i, _, h1, h2 => absurd h2 (by simp; omega)
  | c :: l, F, n, i, hl, h1, h2 => by
    show wrL l (va_up F n c) (n + 1) i < 65536
    by_cases e : i = n
    · subst e
      have key : ∀ (l : List Nat) (F : Nat → Nat) (m : Nat), i < m → wrL l F m i = F i := by
        intro l
        induction l with
        | nil => intro F m _; rfl
        | cons d l ih =>
          intro F m hm
          show wrL l (va_up F m d) (m + 1) i = F i
          rw [ih _ _ (by omega)]
          exact if_neg (by omega)
      rw [key l _ _ (Nat.lt_succ_self i), show va_up F i c i = c from if_pos rfl]
      exact hl c List.mem_cons_self
    · exact wrL_lt (fun d hd => hl d (List.mem_cons_of_mem _ hd)) (by omega) (by simp at h2; omega)
theorem lF.text (hF : lF k G Sv Hi In Le hs ch ty wy ln) (hk : k < 512) {l : List Nat} (hl : l.length ≤ 16) (hc : ∀ c, c ∈ l → c < 65536) : lF (k + 1) G Sv Hi In (wrL l Le 0) hs ch ty wy l.length := by
  obtain ⟨b, h1, h2, h3, h4, h5, h6, h7, h8, h9, h10, h11, h12, h13⟩ := hF
  exact ⟨b, h1, h2, by omega, by omega, h5, h6, h7, h8, h9, h10, hl, fun i hi => wrL_lt hc (Nat.zero_le i) (by omega), h13⟩
theorem apI_F {F : Nat → Nat} {n : Nat} {p : Int32} (hF : ∀ i, i < n → F i < 128) : ∀ m, (∀ j, j < m → bC p j ≤ 1) → n ≤ (apI F n p m).2 ∧ (apI F n p m).2 ≤ n + m ∧ ∀ i, i < (apI F n p m).2 → (apI F n p m).1 i < 128
  | 0, _ => ⟨Nat.le_refl n, Nat.le_refl n, hF⟩
  | m + 1, h => by
    obtain ⟨h1, h2, h3⟩ := apI_F hF m (fun j hj => h j (by omega))
    unfold apI
    by_cases e : bO p m = 0
    · rw [if_pos e]; exact ⟨h1, by omega, h3⟩
    · rw [if_neg e]
      refine ⟨by show n ≤ (apI F n p m).2 + 1; omega, by show (apI F n p m).2 + 1 ≤ n + (m + 1); omega, fun i hi => ?_⟩
      have hi : i < (apI F n p m).2 + 1 := hi
      show va_up (apI F n p m).1 (apI F n p m).2 (bO p m) i < 128
      unfold va_up
      by_cases e2 : i = (apI F n p m).2
      · rw [if_pos e2]
        have h4 := h m (Nat.lt_succ_self m)
        unfold bC at h4
        rw [if_neg e] at h4
        split at h4
        · omega
        · omega
      · rw [if_neg e2]; exact h3 i (by omega)
theorem lF.append (hF : lF k G Sv Hi In Le hs ch ty wy ln) (hk : k < 512) (p : Int32) : lF (k + 1) G Sv Hi (if 4 < sm (bC p) 4 then In else (if 60 < ty + sm (bC p) 4 then In else (apI In ty p 4).1)) Le hs ch (if 4 < sm (bC p) 4 then ty else (if 60 < ty + sm (bC p) 4 then ty else (apI In ty p 4).2)) wy ln := by
  by_cases c1 : 4 < sm (bC p) 4
  · rw [if_pos c1, if_pos c1]; exact hF.next hk
  · rw [if_neg c1, if_neg c1]
    by_cases c2 : 60 < ty + sm (bC p) 4
    · rw [if_pos c2, if_pos c2]; exact hF.next hk
    · rw [if_neg c2, if_neg c2]
      obtain ⟨b, h1, h2, h3, h4, h5, h6, h7, h8, h9, h10, h11, h12, h13⟩ := hF
      have hb : ∀ j, j < 4 → bC p j ≤ 1 := by
        intro j hj
        have hm := sm_mono (f := bC p) (a := j + 1) (b := 4) (by omega)
        rw [sm] at hm
        have h5 : bC p j ≤ 4 := by omega
        unfold bC at h5 ⊢
        split
        · omega
        · rename_i q; rw [if_neg q] at h5; split
          · omega
          · rename_i q2; rw [if_neg q2] at h5; omega
      have e1 := apI_F h10 4 hb
      have e2 := apI_n (F := In) (n := ty) (Nat.not_lt.mp c1) 4 (Nat.le_refl 4)
      exact ⟨b, h1, h2, by omega, by omega, h5, h6, h7, h8, by omega, e1.2.2, h11, h12, h13⟩
theorem lF.read (hF : lF k G Sv Hi In Le hs ch ty wy ln) (hk : k < 512) : lF (k + 1) (if mal In ty then G else (if rS In ty G < kL In ty + 1 then G else (GS In ty G (kL In ty + 1)))) Sv (if mal In ty then Hi else (if rS In ty G < kL In ty + 1 then Hi else (hPush Hi G ch))) In Le hs (if mal In ty then ch else (if rS In ty G < kL In ty + 1 then ch else (if ch = 8 then 8 else ch + 1))) 0 (if mal In ty then wy else (if rS In ty G < kL In ty + 1 then vWy (vS In ty G (rS In ty G)) wy else wy)) ln := by
  obtain ⟨b, h1, h2, h3, h4, h5, h6, h7, h8, h9, h10, h11, h12, h13⟩ := hF
  by_cases c1 : mal In ty
  · rw [if_pos c1, if_pos c1, if_pos c1, if_pos c1]
    exact ⟨b, h1, h2, by omega, by omega, h5, h6, h7, h8, by omega, fun i hi => absurd hi (Nat.not_lt_zero i), h11, h12, h13⟩
  · rw [if_neg c1, if_neg c1, if_neg c1, if_neg c1]
    by_cases c2 : rS In ty G < kL In ty + 1
    · rw [if_pos c2, if_pos c2, if_pos c2, if_pos c2]
      refine ⟨b, h1, h2, by omega, by omega, h5, h6, h7, h8, by omega, fun i hi => absurd hi (Nat.not_lt_zero i), h11, h12, ?_⟩
      have := vOrd_w100 (GS In ty G (rS In ty G)) (kd In ty (sn In ty (rS In ty G))) (oV In ty (sn In ty (rS In ty G)) 1) (oV In ty (sn In ty (rS In ty G)) 2) (oV In ty (sn In ty (rS In ty G)) 3) (oV In ty (sn In ty (rS In ty G)) 4) (oV In ty (sn In ty (rS In ty G)) 5)
      have hw : (vS In ty G (rS In ty G)).2.1 ≤ 100 := this
      unfold vWy
      split
      · exact h13
      · omega
    · rw [if_neg c2, if_neg c2, if_neg c2, if_neg c2]
      have e1 := kL_gd (F := In) h9
      have e2 := (sn_ok e1.2.1)
      have hb : b + 32 < 2 ^ 20 := by omega
      have e3 := gWf_GS c1 h9 h1 h2 hb (kL In ty + 1) (Nat.le_refl _)
      refine ⟨b + (kL In ty + 1), e3, by omega, by omega, by omega, ?_, ?_, h7, fun q => gWf_mono (h8 q) (by omega) e3.1, by omega, fun i hi => absurd hi (Nat.not_lt_zero i), h11, h12, h13⟩
      · split <;> omega
      · intro j hj
        exact gWf_mono (hist_push h1 h5 h6 j hj) (by omega) e3.1
end LF2
theorem nv_b01 (x : Int32) : (if x = 0 then 0 else 1 : Nat) ≤ 1 := by split <;> decide
theorem nd_mean {k : Nat} {x : Int32} (h : k ≤ 8) : vf_n64 (if k = 0 then FP.dconst0 else FP.ddiv (FP.i2d x) (FP.i2d (nI k))) := by
  by_cases h0 : k = 0
  · rw [if_pos h0]; unfold vf_n64; decide +kernel
  · rw [if_neg h0]; exact nd_doors h h0
theorem iR_lt {x : Int32} {n : Nat} (h : iR x n) (hn : n < 2 ^ 31) : tN x < n := by
  obtain ⟨k, hk, rfl⟩ := iR_of h hn
  rw [tN_nI (by omega)]
  exact hk
theorem enD_lt {b : Nat} {G : Nat → Nat} (hG : gWf b G) {a : Nat} (ha : a < 3) : ∀ c, c ∈ enD G a → c < 65536 := by
  intro c hc
  have h5 := hG.2.2.2.2.2.1
  have key : ∀ k z, k < 4 → z < 2 → 97 + G (gEndAt a k z) < 65536 := by
    intro k z hk hz
    have := h5 (2 * (4 * a + k) + z) (by omega)
    unfold gEndAt
    rw [show 8 + 2 * (4 * a + k) + z = 8 + (2 * (4 * a + k) + z) by omega]
    omega
  unfold enD enH at hc
  simp only [List.mem_append, List.mem_cons, List.not_mem_nil, or_false] at hc
  rcases hc with (rfl | rfl | rfl | rfl) | rfl | rfl | rfl | rfl | rfl
  all_goals first | exact key _ _ (by decide) (by decide) | decide
theorem lnD_lt {b : Nat} {G : Nat → Nat} (hG : gWf b G) {d : Nat} (hd : d < G 0) : ∀ c, c ∈ lnD G d → c < 65536 := by
  intro c hc
  have h0 := hG.2.2.1
  have h1 := hG.2.2.2.1
  obtain ⟨w_a, w_g, w_n, w_s, w_w, w_l, w_o, w_x, w_y, w_r⟩ := hG.door (d := d) (by omega)
  have he : gEnd G d ≤ 25 := by
    have h5 := hG.2.2.2.2.2.1
    have hcc := gWf_case hG (d := d) (by omega)
    unfold gEnd gEndAt
    rw [show 8 + 2 * (4 * G (32 + d) + gCase G d) + G (48 + d) = 8 + (2 * (4 * G (32 + d) + gCase G d) + G (48 + d)) by omega]
    exact h5 _ (by omega)
  unfold lnD at hc
  simp only [List.mem_append, List.mem_cons] at hc
  rcases hc with rfl | rfl | rfl | rfl | rfl | rfl | hc | hc
  · unfold gl; split
    · decide
    · split <;> decide
  · split <;> decide
  · omega
  · omega
  · decide
  · omega
  · split at hc
    · exact absurd hc List.not_mem_nil
    · simp only [List.mem_cons, List.not_mem_nil, or_false] at hc
      rcases hc with rfl | rfl
      · decide
      · omega
  · split at hc
    · simp only [List.mem_cons, List.not_mem_nil, or_false] at hc
      rw [hc]; decide
    · split at hc
      · exact absurd hc List.not_mem_nil
      · simp only [List.mem_cons, List.not_mem_nil, or_false] at hc
        rcases hc with rfl | rfl
        · decide
        · omega
