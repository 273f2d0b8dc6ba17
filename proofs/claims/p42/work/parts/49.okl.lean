theorem vDoor_ok {G : Nat → Nat} {a g : Int32} {z : Nat} {x y : Int32} (h : (vDoor G a g z x y).1 = 0) : ∃ ak gk xk yk : Nat, ak < 3 ∧ gk < 3 ∧ xk < 6 ∧ yk < 6 ∧ a = nI ak ∧ g = nI gk ∧ x = nI xk ∧ y = nI yk ∧ ¬ G 0 = 8 ∧ vDoor G (nI ak) (nI gk) z (nI xk) (nI yk) = vOk (nI (G 0)) (gDoor G ak gk z xk yk) := by
  have c0 : ¬ (¬ iR a 3 ∨ ¬ iR g 3 ∨ x = y) := fun q => by
    unfold vDoor at h
    rw [if_pos q] at h
    exact absurd h (Nat.succ_ne_zero _)
  have c1 : ¬ (¬ iR x 6 ∨ ¬ iR y 6) := fun q => by
    unfold vDoor at h
    rw [if_neg c0, if_pos q] at h
    exact absurd h (Nat.succ_ne_zero _)
  have c2 : ¬ (G 0 = 8) := fun q => by
    unfold vDoor at h
    rw [if_neg c0, if_neg c1, if_pos q] at h
    exact absurd h (Nat.succ_ne_zero _)
  obtain ⟨ak, h_ak, rfl⟩ := iR_of ((Decidable.not_not.mp (fun q => c0 (Or.inl q)))) (by first | decide | omega)
  obtain ⟨gk, h_gk, rfl⟩ := iR_of ((Decidable.not_not.mp (fun q => c0 (Or.inr (Or.inl q))))) (by first | decide | omega)
  obtain ⟨xk, h_xk, rfl⟩ := iR_of ((Decidable.not_not.mp (fun q => c1 (Or.inl q)))) (by first | decide | omega)
  obtain ⟨yk, h_yk, rfl⟩ := iR_of ((Decidable.not_not.mp (fun q => c1 (Or.inr q)))) (by first | decide | omega)
  refine ⟨ak, gk, xk, yk, h_ak, h_gk, h_xk, h_yk, rfl, rfl, rfl, rfl, c2, ?_⟩
  unfold vDoor
  rw [if_neg c0, if_neg c1, if_neg c2]
  simp only [tN_nI (k := ak) (by omega), tN_nI (k := gk) (by omega), tN_nI (k := xk) (by omega), tN_nI (k := yk) (by omega)]

theorem vSill_ok {G : Nat → Nat} {c : Int32} (h : (vSill G c).1 = 0) : ∃ ck : Nat, ck < 4 ∧ c = nI ck ∧ ¬ G 1 = 6 ∧ vSill G (nI ck) = vOk (nI (G 1)) (gSill G ck) := by
  have c0 : ¬ (¬ iR c 4) := fun q => by
    unfold vSill at h
    rw [if_pos q] at h
    exact absurd h (Nat.succ_ne_zero _)
  have c1 : ¬ (G 1 = 6) := fun q => by
    unfold vSill at h
    rw [if_neg c0, if_pos q] at h
    exact absurd h (Nat.succ_ne_zero _)
  obtain ⟨ck, h_ck, rfl⟩ := iR_of ((Decidable.not_not.mp (fun q => c0 q))) (by first | decide | omega)
  refine ⟨ck, h_ck, rfl, c1, ?_⟩
  unfold vSill
  rw [if_neg c0, if_neg c1]
  simp only [tN_nI (k := ck) (by omega)]

theorem vGovern_ok {G : Nat → Nat} {t c : Int32} (h : (vGovern G t c).1 = 0) (h1 : G 1 < 2 ^ 31) : ∃ tk ck : Nat, tk < G 1 ∧ ck < 4 ∧ t = nI tk ∧ c = nI ck ∧ True ∧ vGovern G (nI tk) (nI ck) = vOk (nI (G (112 + tk))) (va_up G (112 + tk) ck) := by
  have c0 : ¬ (¬ iR t (G 1)) := fun q => by
    unfold vGovern at h
    rw [if_pos q] at h
    exact absurd h (Nat.succ_ne_zero _)
  have c1 : ¬ (¬ iR c 4) := fun q => by
    unfold vGovern at h
    rw [if_neg c0, if_pos q] at h
    exact absurd h (Nat.succ_ne_zero _)
  have c2 : ¬ (nI (G (112 + tN t)) = c) := fun q => by
    unfold vGovern at h
    rw [if_neg c0, if_neg c1, if_pos q] at h
    exact absurd h (Nat.succ_ne_zero _)
  obtain ⟨tk, h_tk, rfl⟩ := iR_of ((Decidable.not_not.mp (fun q => c0 q))) (by first | decide | omega)
  obtain ⟨ck, h_ck, rfl⟩ := iR_of ((Decidable.not_not.mp (fun q => c1 q))) (by first | decide | omega)
  refine ⟨tk, ck, h_tk, h_ck, rfl, rfl, trivial, ?_⟩
  unfold vGovern
  rw [if_neg c0, if_neg c1, if_neg c2]
  simp only [tN_nI (k := tk) (by omega), tN_nI (k := ck) (by omega)]

theorem vTell_ok {G : Nat → Nat} {a c : Int32} {z : Nat} {x : Int32} (h : (vTell G a c z x).1 = 0) : ∃ ak ck xk : Nat, ak < 3 ∧ ck < 4 ∧ xk < 26 ∧ a = nI ak ∧ c = nI ck ∧ x = nI xk ∧ True ∧ vTell G (nI ak) (nI ck) z (nI xk) = vOk (nI (G (gEndAt ak ck z))) (va_up G (gEndAt ak ck z) xk) := by
  have c0 : ¬ (¬ iR a 3 ∨ ¬ iR c 4 ∨ ¬ iR x 26) := fun q => by
    unfold vTell at h
    rw [if_pos q] at h
    exact absurd h (Nat.succ_ne_zero _)
  have c1 : ¬ (nI (G (gEndAt (tN a) (tN c) z)) = x) := fun q => by
    unfold vTell at h
    rw [if_neg c0, if_pos q] at h
    exact absurd h (Nat.succ_ne_zero _)
  obtain ⟨ak, h_ak, rfl⟩ := iR_of ((Decidable.not_not.mp (fun q => c0 (Or.inl q)))) (by first | decide | omega)
  obtain ⟨ck, h_ck, rfl⟩ := iR_of ((Decidable.not_not.mp (fun q => c0 (Or.inr (Or.inl q))))) (by first | decide | omega)
  obtain ⟨xk, h_xk, rfl⟩ := iR_of ((Decidable.not_not.mp (fun q => c0 (Or.inr (Or.inr q))))) (by first | decide | omega)
  refine ⟨ak, ck, xk, h_ak, h_ck, h_xk, rfl, rfl, rfl, trivial, ?_⟩
  unfold vTell
  rw [if_neg c0, if_neg c1]
  simp only [tN_nI (k := ak) (by omega), tN_nI (k := ck) (by omega), tN_nI (k := xk) (by omega)]

theorem vKey_ok {G : Nat → Nat} {a g : Int32} (h : (vKey G a g).1 = 0) : ∃ ak gk : Nat, ak < 3 ∧ gk < 3 ∧ a = nI ak ∧ g = nI gk ∧ ¬ G 2 = 5 ∧ vKey G (nI ak) (nI gk) = vOk (nI (G 2)) (gKey G ak gk) := by
  have c0 : ¬ (¬ iR a 3 ∨ ¬ iR g 3) := fun q => by
    unfold vKey at h
    rw [if_pos q] at h
    exact absurd h (Nat.succ_ne_zero _)
  have c1 : ¬ (gSame G (tN a) (tN g) < G 2) := fun q => by
    unfold vKey at h
    rw [if_neg c0, if_pos q] at h
    exact absurd h (Nat.succ_ne_zero _)
  have c2 : ¬ (G 2 = 5) := fun q => by
    unfold vKey at h
    rw [if_neg c0, if_neg c1, if_pos q] at h
    exact absurd h (Nat.succ_ne_zero _)
  obtain ⟨ak, h_ak, rfl⟩ := iR_of ((Decidable.not_not.mp (fun q => c0 (Or.inl q)))) (by first | decide | omega)
  obtain ⟨gk, h_gk, rfl⟩ := iR_of ((Decidable.not_not.mp (fun q => c0 (Or.inr q)))) (by first | decide | omega)
  refine ⟨ak, gk, h_ak, h_gk, rfl, rfl, c2, ?_⟩
  unfold vKey
  rw [if_neg c0, if_neg c1, if_neg c2]
  simp only [tN_nI (k := ak) (by omega), tN_nI (k := gk) (by omega)]

theorem vKnock_ok {G : Nat → Nat} {d g : Int32} {z : Nat} {c : Int32} (h : (vKnock G d g z c).1 = 0) (h0 : G 0 < 2 ^ 31) : ∃ dk gk ck : Nat, dk < G 0 ∧ gk < 3 ∧ ck < 4 ∧ d = nI dk ∧ g = nI gk ∧ c = nI ck ∧ True ∧ vKnock G (nI dk) (nI gk) z (nI ck) = vOk (nI (gAgree G dk gk z ck)) (if gAgree G dk gk z ck = 3 then gRight (gHeard G dk) dk else gWrong (gHeard G dk) dk) := by
  have c0 : ¬ (¬ iR d (G 0)) := fun q => by
    unfold vKnock at h
    rw [if_pos q] at h
    exact absurd h (Nat.succ_ne_zero _)
  have c1 : ¬ (¬ iR g 3 ∨ ¬ iR c 4) := fun q => by
    unfold vKnock at h
    rw [if_neg c0, if_pos q] at h
    exact absurd h (Nat.succ_ne_zero _)
  have c2 : ¬ (G (80 + tN d) = 1) := fun q => by
    unfold vKnock at h
    rw [if_neg c0, if_neg c1, if_pos q] at h
    exact absurd h (Nat.succ_ne_zero _)
  have c3 : ¬ (G (72 + tN d) = 1) := fun q => by
    unfold vKnock at h
    rw [if_neg c0, if_neg c1, if_neg c2, if_pos q] at h
    exact absurd h (Nat.succ_ne_zero _)
  obtain ⟨dk, h_dk, rfl⟩ := iR_of ((Decidable.not_not.mp (fun q => c0 q))) (by first | decide | omega)
  obtain ⟨gk, h_gk, rfl⟩ := iR_of ((Decidable.not_not.mp (fun q => c1 (Or.inl q)))) (by first | decide | omega)
  obtain ⟨ck, h_ck, rfl⟩ := iR_of ((Decidable.not_not.mp (fun q => c1 (Or.inr q)))) (by first | decide | omega)
  refine ⟨dk, gk, ck, h_dk, h_gk, h_ck, rfl, rfl, rfl, trivial, ?_⟩
  unfold vKnock
  rw [if_neg c0, if_neg c1, if_neg c2, if_neg c3]
  simp only [tN_nI (k := dk) (by omega), tN_nI (k := gk) (by omega), tN_nI (k := ck) (by omega)]

theorem vShut_ok {G : Nat → Nat} {d : Int32} (h : (vShut G d).1 = 0) (h0 : G 0 < 2 ^ 31) : ∃ dk : Nat, dk < G 0 ∧ d = nI dk ∧ True ∧ vShut G (nI dk) = vOk (nI (gMany (va_up G (80 + dk) 0) 80)) (va_up G (80 + dk) 0) := by
  have c0 : ¬ (¬ iR d (G 0)) := fun q => by
    unfold vShut at h
    rw [if_pos q] at h
    exact absurd h (Nat.succ_ne_zero _)
  have c1 : ¬ (G (80 + tN d) = 0) := fun q => by
    unfold vShut at h
    rw [if_neg c0, if_pos q] at h
    exact absurd h (Nat.succ_ne_zero _)
  obtain ⟨dk, h_dk, rfl⟩ := iR_of ((Decidable.not_not.mp (fun q => c0 q))) (by first | decide | omega)
  refine ⟨dk, h_dk, rfl, trivial, ?_⟩
  unfold vShut
  rw [if_neg c0, if_neg c1]
  simp only [tN_nI (k := dk) (by omega)]

theorem vFree_ok {G : Nat → Nat} {k d : Int32} (h : (vFree G k d).1 = 0) (h0 : G 0 < 2 ^ 31) (h2 : G 2 < 2 ^ 31) : ∃ kk dk : Nat, kk < G 2 ∧ dk < G 0 ∧ k = nI kk ∧ d = nI dk ∧ True ∧ vFree G (nI kk) (nI dk) = vOk (nI (gMany (gFree G dk) 72)) (gFree G dk) := by
  have c0 : ¬ (¬ iR k (G 2) ∨ ¬ iR d (G 0)) := fun q => by
    unfold vFree at h
    rw [if_pos q] at h
    exact absurd h (Nat.succ_ne_zero _)
  have c1 : ¬ (G (72 + tN d) = 0) := fun q => by
    unfold vFree at h
    rw [if_neg c0, if_pos q] at h
    exact absurd h (Nat.succ_ne_zero _)
  have c2 : ¬ (gFit G (tN k) (G (32 + tN d)) (G (40 + tN d)) < 2) := fun q => by
    unfold vFree at h
    rw [if_neg c0, if_neg c1, if_pos q] at h
    exact absurd h (Nat.succ_ne_zero _)
  obtain ⟨kk, h_kk, rfl⟩ := iR_of ((Decidable.not_not.mp (fun q => c0 (Or.inl q)))) (by first | decide | omega)
  obtain ⟨dk, h_dk, rfl⟩ := iR_of ((Decidable.not_not.mp (fun q => c0 (Or.inr q)))) (by first | decide | omega)
  refine ⟨kk, dk, h_kk, h_dk, rfl, rfl, trivial, ?_⟩
  unfold vFree
  rw [if_neg c0, if_neg c1, if_neg c2]
  simp only [tN_nI (k := kk) (by omega), tN_nI (k := dk) (by omega)]

theorem vSet_ok {G : Nat → Nat} {d t : Int32} (h : (vSet G d t).1 = 0) (h0 : G 0 < 2 ^ 31) (h1 : G 1 < 2 ^ 30) : ∃ dk zk : Nat, dk < G 0 ∧ zk ≤ G 1 ∧ d = nI dk ∧ t = nI zk - nI 1 ∧ vSet G (nI dk) t = vOk (nI (gCase (va_up G (56 + dk) zk) dk)) (va_up G (56 + dk) zk) := by
  have c0 : ¬ (¬ iR d (G 0) ∨ (¬ t = -1 ∧ ¬ iR t (G 1))) := fun q => by
    unfold vSet at h
    rw [if_pos q] at h
    exact absurd h (Nat.succ_ne_zero _)
  have c1 : ¬ (nI (G (56 + tN d)) = t + nI 1) := fun q => by
    unfold vSet at h
    rw [if_neg c0, if_pos q] at h
    exact absurd h (Nat.succ_ne_zero _)
  obtain ⟨dk, h_dk, rfl⟩ := iR_of (Decidable.not_not.mp (fun q => c0 (Or.inl q))) (by omega)
  have hz : ∃ zk, zk ≤ G 1 ∧ t = nI zk - nI 1 := by
    by_cases q : t = -1
    · exact ⟨0, Nat.zero_le _, by rw [q]; decide⟩
    · obtain ⟨tk, h_tk, rfl⟩ := iR_of (Decidable.not_not.mp (fun z => c0 (Or.inr ⟨q, z⟩))) (by omega)
      exact ⟨tk + 1, h_tk, by rw [← nI_add, Int32.add_sub_cancel]⟩
  obtain ⟨zk, hzk, ht⟩ := hz
  have e1 : t + nI 1 = nI zk := (i_sub1 (nI zk) t).mp ht.symm ▸ rfl
  refine ⟨dk, zk, h_dk, hzk, rfl, ht, ?_⟩
  unfold vSet
  rw [if_neg c0, if_neg c1, e1, tN_nI (k := dk) (by omega), tN_nI (k := zk) (by omega)]

theorem vSill_n2 (G : Nat → Nat) (c : Int32) : (vSill G c).1 ≤ 2 := by
  unfold vSill; repeat' split
  all_goals simp [vErr, vRef, vOk]

theorem vSet_n2 (G : Nat → Nat) (d t : Int32) : (vSet G d t).1 ≤ 2 := by
  unfold vSet; repeat' split
  all_goals simp [vErr, vRef, vOk]

theorem vTell_n2 (G : Nat → Nat) (a c : Int32) (z : Nat) (x : Int32) : (vTell G a c z x).1 ≤ 2 := by
  unfold vTell; repeat' split
  all_goals simp [vErr, vRef, vOk]

theorem vKey_n2 (G : Nat → Nat) (a g : Int32) : (vKey G a g).1 ≤ 2 := by
  unfold vKey; repeat' split
  all_goals simp [vErr, vRef, vOk]

theorem vShut_n2 (G : Nat → Nat) (d : Int32) : (vShut G d).1 ≤ 2 := by
  unfold vShut; repeat' split
  all_goals simp [vErr, vRef, vOk]

theorem vFree_n2 (G : Nat → Nat) (k d : Int32) : (vFree G k d).1 ≤ 2 := by
  unfold vFree; repeat' split
  all_goals simp [vErr, vRef, vOk]

/-- what a fault throws, told by its verdict's number -/
def nsT : List String := ["java/lang/IllegalArgumentException", "java/lang/IndexOutOfBoundsException", "java/lang/UnsupportedOperationException"]
def nsF (fl : List Nat) : List String := fl.map (fun k => nsT.getD (k - 1) "")
def fOk (fl : List Nat) : Prop := ∀ k, k < fl.length → fl.getD k 0 ≤ 3 ∧ ¬ fl.getD k 0 = 0 ∧ nsT.getD (fl.getD k 0 - 1) "" = (nsF fl).getD k ""
theorem fC_ok {fl : List Nat} (hf : fOk fl) {n : Nat} (hn : n ≤ fl.length) : fC fl n ≤ 3 ∧ (fC fl n = 0 ↔ n = 0) ∧ (¬ n = 0 → nsT.getD (fC fl n - 1) "" = (nsF fl).getD (n - 1) "") := by
  unfold fC
  by_cases h : n = 0
  · rw [if_pos h]; exact ⟨Nat.zero_le _, ⟨fun _ => h, fun _ => rfl⟩, fun q => absurd h q⟩
  · rw [if_neg h]
    obtain ⟨h1, h2, h3⟩ := hf (n - 1) (by omega)
    exact ⟨h1, ⟨fun q => absurd q h2, fun q => absurd q h⟩, fun _ => h3⟩
theorem fOk_123 : fOk [1, 2, 3] := by unfold fOk; decide +kernel
theorem fOk_213 : fOk [2, 1, 3] := by unfold fOk; decide +kernel
theorem fOk_13 : fOk [1, 3] := by unfold fOk; decide +kernel
theorem fOk_23 : fOk [2, 3] := by unfold fOk; decide +kernel
