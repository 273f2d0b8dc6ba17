theorem kv_v {n : Nat} {r : Int32} (h : ¬ n = 0 → r = 0) : (if n = 0 then r else 0) = r := by
  by_cases q : n = 0
  · rw [if_pos q]
  · rw [if_neg q, h q]
theorem kv_G {n : Nat} {G1 G : Nat → Nat} (h : ¬ n = 0 → G1 = G) : (if n = 0 then G1 else G) = G1 := by
  by_cases q : n = 0
  · rw [if_pos q]
  · rw [if_neg q, h q]
theorem vDoor_G {G : Nat → Nat} {a g : Int32} {z : Nat} {x y : Int32} (h : ¬ (vDoor G a g z x y).1 = 0) : (vDoor G a g z x y).2.2.2.2 = G ∧ (vDoor G a g z x y).2.2.2.1 = 0 := by
  revert h; unfold vDoor; split
  · exact fun _ => ⟨rfl, rfl⟩
  · split
    · exact fun _ => ⟨rfl, rfl⟩
    · split
      · exact fun _ => ⟨rfl, rfl⟩
      · exact fun h => absurd rfl h
theorem vSill_G {G : Nat → Nat} {c : Int32} (h : ¬ (vSill G c).1 = 0) : (vSill G c).2.2.2.2 = G ∧ (vSill G c).2.2.2.1 = 0 := by
  revert h; unfold vSill; split
  · exact fun _ => ⟨rfl, rfl⟩
  · split
    · exact fun _ => ⟨rfl, rfl⟩
    · exact fun h => absurd rfl h
theorem vGovern_G {G : Nat → Nat} {t c : Int32} (h : ¬ (vGovern G t c).1 = 0) : (vGovern G t c).2.2.2.2 = G ∧ (vGovern G t c).2.2.2.1 = 0 := by
  revert h; unfold vGovern; split
  · exact fun _ => ⟨rfl, rfl⟩
  · split
    · exact fun _ => ⟨rfl, rfl⟩
    · split
      · exact fun _ => ⟨rfl, rfl⟩
      · exact fun h => absurd rfl h
theorem vSet_G {G : Nat → Nat} {d t : Int32} (h : ¬ (vSet G d t).1 = 0) : (vSet G d t).2.2.2.2 = G ∧ (vSet G d t).2.2.2.1 = 0 := by
  revert h; unfold vSet; split
  · exact fun _ => ⟨rfl, rfl⟩
  · split
    · exact fun _ => ⟨rfl, rfl⟩
    · exact fun h => absurd rfl h
theorem vTell_G {G : Nat → Nat} {a c : Int32} {z : Nat} {x : Int32} (h : ¬ (vTell G a c z x).1 = 0) : (vTell G a c z x).2.2.2.2 = G ∧ (vTell G a c z x).2.2.2.1 = 0 := by
  revert h; unfold vTell; split
  · exact fun _ => ⟨rfl, rfl⟩
  · split
    · exact fun _ => ⟨rfl, rfl⟩
    · exact fun h => absurd rfl h
theorem vKey_G {G : Nat → Nat} {a g : Int32} (h : ¬ (vKey G a g).1 = 0) : (vKey G a g).2.2.2.2 = G ∧ (vKey G a g).2.2.2.1 = 0 := by
  revert h; unfold vKey; split
  · exact fun _ => ⟨rfl, rfl⟩
  · split
    · exact fun _ => ⟨rfl, rfl⟩
    · split
      · exact fun _ => ⟨rfl, rfl⟩
      · exact fun h => absurd rfl h
theorem vKnock_G {G : Nat → Nat} {d g : Int32} {z : Nat} {c : Int32} (h : ¬ (vKnock G d g z c).1 = 0) : (vKnock G d g z c).2.2.2.2 = G ∧ (vKnock G d g z c).2.2.2.1 = 0 := by
  revert h; unfold vKnock; split
  · exact fun _ => ⟨rfl, rfl⟩
  · split
    · exact fun _ => ⟨rfl, rfl⟩
    · split
      · exact fun _ => ⟨rfl, rfl⟩
      · split
        · exact fun _ => ⟨rfl, rfl⟩
        · exact fun h => absurd rfl h
theorem vShut_G {G : Nat → Nat} {d : Int32} (h : ¬ (vShut G d).1 = 0) : (vShut G d).2.2.2.2 = G ∧ (vShut G d).2.2.2.1 = 0 := by
  revert h; unfold vShut; split
  · exact fun _ => ⟨rfl, rfl⟩
  · split
    · exact fun _ => ⟨rfl, rfl⟩
    · exact fun h => absurd rfl h
theorem vFree_G {G : Nat → Nat} {k d : Int32} (h : ¬ (vFree G k d).1 = 0) : (vFree G k d).2.2.2.2 = G ∧ (vFree G k d).2.2.2.1 = 0 := by
  revert h; unfold vFree; split
  · exact fun _ => ⟨rfl, rfl⟩
  · split
    · exact fun _ => ⟨rfl, rfl⟩
    · split
      · exact fun _ => ⟨rfl, rfl⟩
      · exact fun h => absurd rfl h
theorem vDoor_n (G : Nat → Nat) (a g : Int32) (z : Nat) (x y : Int32) : (vDoor G a g z x y).1 ≤ 3 := by
  unfold vDoor; repeat' split
  all_goals simp [vErr, vRef, vOk]
theorem vSill_n (G : Nat → Nat) (c : Int32) : (vSill G c).1 ≤ 3 := by
  unfold vSill; repeat' split
  all_goals simp [vErr, vRef, vOk]
theorem vGovern_n (G : Nat → Nat) (t c : Int32) : (vGovern G t c).1 ≤ 3 := by
  unfold vGovern; repeat' split
  all_goals simp [vErr, vRef, vOk]
theorem vSet_n (G : Nat → Nat) (d t : Int32) : (vSet G d t).1 ≤ 3 := by
  unfold vSet; repeat' split
  all_goals simp [vErr, vRef, vOk]
theorem vTell_n (G : Nat → Nat) (a c : Int32) (z : Nat) (x : Int32) : (vTell G a c z x).1 ≤ 3 := by
  unfold vTell; repeat' split
  all_goals simp [vErr, vRef, vOk]
theorem vKey_n (G : Nat → Nat) (a g : Int32) : (vKey G a g).1 ≤ 3 := by
  unfold vKey; repeat' split
  all_goals simp [vErr, vRef, vOk]
theorem vKnock_n (G : Nat → Nat) (d g : Int32) (z : Nat) (c : Int32) : (vKnock G d g z c).1 ≤ 3 := by
  unfold vKnock; repeat' split
  all_goals simp [vErr, vRef, vOk]
theorem vShut_n (G : Nat → Nat) (d : Int32) : (vShut G d).1 ≤ 3 := by
  unfold vShut; repeat' split
  all_goals simp [vErr, vRef, vOk]
theorem vFree_n (G : Nat → Nat) (k d : Int32) : (vFree G k d).1 ≤ 3 := by
  unfold vFree; repeat' split
  all_goals simp [vErr, vRef, vOk]
