theorem vO_w {F : Nat → Nat} {ty sp : Nat} {G : Nat → Nat} (h : (vO F ty sp G).1 = 0) : (vO F ty sp G).2.1 = 0 := vOrd_w h
theorem vO_G {F : Nat → Nat} {ty sp : Nat} {G : Nat → Nat} (h : ¬ (vO F ty sp G).1 = 0) : (vO F ty sp G).2.2.2.2 = G ∧ (vO F ty sp G).2.2.2.1 = 0 := vOrd_G h
theorem vO_n (F : Nat → Nat) (ty sp : Nat) (G : Nat → Nat) : (vO F ty sp G).1 ≤ 3 := vOrd_n _ _ _ _ _ _ _
