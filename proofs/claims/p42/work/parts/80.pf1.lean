/-! the law's third house, g a gender: its states by tables -/
def tb : List (Nat × Nat) → Nat → Nat
  | [] => gNew
  | q :: l => va_up (tb l) q.1 q.2
abbrev gH (g : Nat) : Nat := (g + 1) % 3
def zT1 (g : Nat) : Nat → Nat := tb [(0, 2), (1, 1), (2, 1), (40, g), (41, g), (57, 1), (89, 1), (96, 1), (97, 2), (112, 3), (123, g)]
def zT2 (g : Nat) : Nat → Nat := tb [(0, 2), (1, 1), (2, 1), (3, 1), (5, 1), (40, g), (41, g), (57, 1), (64, 1), (89, 1), (96, 1), (97, 2), (104, 1), (112, 3), (123, g)]
def zT3 (g : Nat) : Nat → Nat := tb [(0, 2), (1, 1), (2, 1), (3, 2), (5, 2), (40, g), (41, g), (57, 1), (64, 2), (89, 1), (96, 1), (97, 2), (104, 2), (112, 3), (123, g)]
def zT4 (g : Nat) : Nat → Nat := tb [(0, 2), (1, 1), (2, 1), (3, 3), (5, 3), (6, 1), (40, g), (41, g), (57, 1), (64, 3), (72, 1), (89, 1), (96, 1), (97, 2), (104, 3), (112, 3), (123, g)]
def zT5 (g : Nat) : Nat → Nat := tb [(0, 2), (1, 1), (2, 2), (3, 3), (5, 3), (6, 1), (40, g), (41, g), (57, 1), (64, 3), (72, 1), (89, 1), (96, 1), (97, 2), (104, 3), (112, 3), (123, g), (124, gH g)]
def zT6 (g : Nat) : Nat → Nat := tb [(0, 2), (1, 1), (2, 2), (3, 3), (5, 3), (6, 1), (7, 1), (40, g), (41, g), (57, 1), (89, 1), (96, 1), (97, 2), (104, 3), (112, 3), (123, g), (124, gH g)]
def zT7 (g : Nat) : Nat → Nat := tb [(0, 2), (1, 1), (2, 2), (3, 4), (4, 1), (5, 3), (6, 1), (7, 1), (40, g), (41, g), (57, 1), (80, 1), (89, 1), (96, 1), (97, 2), (104, 4), (112, 3), (123, g), (124, gH g)]
def zT8 (g : Nat) : Nat → Nat := tb [(0, 2), (1, 1), (2, 2), (3, 5), (4, 1), (5, 4), (6, 1), (7, 1), (40, g), (41, g), (57, 1), (65, 1), (80, 1), (89, 1), (96, 1), (97, 2), (104, 4), (105, 1), (112, 3), (123, g), (124, gH g)]
def zT9 (g : Nat) : Nat → Nat := tb [(0, 2), (1, 1), (2, 2), (3, 6), (4, 2), (5, 4), (6, 1), (7, 1), (40, g), (41, g), (57, 1), (80, 1), (81, 1), (89, 1), (96, 1), (97, 2), (104, 4), (105, 2), (112, 3), (123, g), (124, gH g)]
def zT10 (g : Nat) : Nat → Nat := tb [(0, 2), (1, 1), (2, 2), (3, 6), (4, 2), (5, 4), (6, 1), (7, 1), (40, g), (41, g), (57, 1), (81, 1), (89, 1), (96, 1), (97, 2), (104, 4), (105, 2), (112, 3), (123, g), (124, gH g)]
def zT11 (g : Nat) : Nat → Nat := tb [(0, 2), (1, 1), (2, 2), (3, 6), (4, 2), (5, 4), (6, 1), (7, 1), (40, g), (41, g), (57, 1), (81, 1), (89, 1), (96, 1), (97, 2), (104, 4), (105, 2), (123, g), (124, gH g)]
def zT12 (g : Nat) : Nat → Nat := tb [(0, 2), (1, 1), (2, 2), (3, 6), (4, 2), (5, 4), (6, 1), (7, 1), (40, g), (41, g), (81, 1), (89, 1), (96, 1), (97, 2), (104, 4), (105, 2), (123, g), (124, gH g)]
def tZ (g : Nat) : List Nat := [48, gl g, 115, 48, 49, 59, 100, 111, 111, 114, 48, gl g, 115, 49, 50, 59, 115, 105, 108, 108, 76, 59, 115, 101, 116, 49, 64, 48, 59, 107, 101, 121, 48, gl g]
def iZ (g : Nat) : Nat → Nat := wrL (tZ g) (apI qZ 0 (nI 1685024626) 4).1 4
theorem okT_tZ : ∀ g, g < 3 → okT (tZ g) := by decide +kernel
theorem ap_0 : sm (bC (nI 0)) 4 = 0 ∧ (apI qZ 0 (nI 0) 4).2 = 0 := by decide +kernel
theorem ap_0F : (apI qZ 0 (nI 0) 4).1 = qZ := by
  have h : ∀ k, k < 4 → bO (nI 0) k = 0 := by decide +kernel
  simp only [apI, h 0 (by decide), h 1 (by decide), h 2 (by decide), h 3 (by decide), if_true]
theorem ap_d : sm (bC (nI 1685024626)) 4 = 4 ∧ (apI qZ 0 (nI 1685024626) 4).2 = 4 := by decide +kernel
abbrev ztP (F : Nat → Nat) : Prop := (∀ j, j < 4 → gd F 38 j) ∧ ¬ gd F 38 4 ∧ oE F 38 33 = (38, 0) ∧ sn F 38 1 = 10 ∧ sn F 38 2 = 20 ∧ sn F 38 3 = 26 ∧ sn F 38 4 = 33
theorem zt_f : ∀ g, g < 3 → ztP (iZ g) := by decide +kernel
abbrev zkP (F : Nat → Nat) : Prop := kd F 38 0 = 0 ∧ kd F 38 10 = 0 ∧ kd F 38 20 = 1 ∧ kd F 38 26 = 3 ∧ kd F 38 33 = 5
theorem zt_k : ∀ g, g < 3 → zkP (iZ g) := by decide +kernel
abbrev zvP (g : Nat) (F : Nat → Nat) : Prop := (oV F 38 0 1 = nI 0 ∧ oV F 38 0 2 = nI g ∧ oV F 38 0 3 = nI 0 ∧ oV F 38 0 4 = nI 0 ∧ oV F 38 0 5 = nI 1) ∧ (oV F 38 10 1 = nI 0 ∧ oV F 38 10 2 = nI g ∧ oV F 38 10 3 = nI 0 ∧ oV F 38 10 4 = nI 1 ∧ oV F 38 10 5 = nI 2) ∧ oV F 38 20 1 = nI 3 ∧ (oV F 38 26 1 = nI 1 ∧ oV F 38 26 2 = nI 0) ∧ (oV F 38 33 1 = nI 0 ∧ oV F 38 33 2 = nI g)
theorem zt_v : ∀ g, g < 3 → zvP g (iZ g) := by decide +kernel
def zV1 (g : Nat) : V := vDoor gNew (nI 0) (nI g) 0 (nI 0) (nI 1)
def zV2 (g : Nat) : V := vDoor (zV1 g).2.2.2.2 (nI 0) (nI g) 0 (nI 1) (nI 2)
def zV3 (g : Nat) : V := vSill (zV2 g).2.2.2.2 (nI 3)
def zV4 (g : Nat) : V := vSet (zV3 g).2.2.2.2 (nI 1) (nI 0)
def zV5 (g : Nat) : V := vKey (zV4 g).2.2.2.2 (nI 0) (nI g)
theorem zV_0 : ∀ g, g < 3 → (zV1 g).1 = 0 ∧ (zV2 g).1 = 0 ∧ (zV3 g).1 = 0 ∧ (zV4 g).1 = 0 ∧ (zV5 g).1 = 0 := by decide +kernel
theorem zV_t : ∀ g, g < 3 → ∀ k, k < 128 → (zV5 g).2.2.2.2 k = zT1 g k := by decide +kernel
theorem zt_gen {g : Nat} (hg : g < 3) {F : Nat → Nat} (fF : ztP F) (fK : zkP F) (fV : zvP g F) : ¬ mal F 38 ∧ kL F 38 = 4 ∧ rS F 38 gNew = 5 ∧ ∀ k, k < 128 → GS F 38 gNew 5 k = zT1 g k := by
  obtain ⟨f1, f2, f3, s1, s2, s3, s4⟩ := fF
  obtain ⟨k0, k1, k2, k3, k4⟩ := fK
  obtain ⟨⟨a1, a2, a3, a4, a5⟩, ⟨b1, b2, b3, b4, b5⟩, c1, ⟨d1, d2⟩, ⟨e1, e2⟩⟩ := fV
  obtain ⟨w1, w2, w3, w4, w5⟩ := zV_0 g hg
  have hk : kL F 38 = 4 := kL_n 4 f1 f2 (by decide)
  have t0 : tN (nI 0) = 0 := by decide
  have v0 : vS F 38 gNew 0 = zV1 g := by
    show vO _ 38 0 gNew = _
    unfold vO
    rw [k0, a1, a2, a3, a4, a5]
    show vDoor gNew _ _ (tN (nI 0)) _ _ = _
    rw [t0]
    rfl
  have g1 : GS F 38 gNew 1 = (zV1 g).2.2.2.2 := congrArg (fun v : V => v.2.2.2.2) v0
  have v1 : vS F 38 gNew 1 = zV2 g := by
    unfold vS
    rw [g1, s1]
    unfold vO
    rw [k1, b1, b2, b3, b4, b5]
    show vDoor (zV1 g).2.2.2.2 _ _ (tN (nI 0)) _ _ = _
    rw [t0]
    rfl
  have g2 : GS F 38 gNew 2 = (zV2 g).2.2.2.2 := congrArg (fun v : V => v.2.2.2.2) v1
  have v2 : vS F 38 gNew 2 = zV3 g := by
    unfold vS
    rw [g2, s2]
    unfold vO
    rw [k2, c1]
    rfl
  have g3 : GS F 38 gNew 3 = (zV3 g).2.2.2.2 := congrArg (fun v : V => v.2.2.2.2) v2
  have v3 : vS F 38 gNew 3 = zV4 g := by
    unfold vS
    rw [g3, s3]
    unfold vO
    rw [k3, d1, d2]
    rfl
  have g4 : GS F 38 gNew 4 = (zV4 g).2.2.2.2 := congrArg (fun v : V => v.2.2.2.2) v3
  have v4 : vS F 38 gNew 4 = zV5 g := by
    unfold vS
    rw [g4, s4]
    unfold vO
    rw [k4, e1, e2]
    rfl
  have g5 : GS F 38 gNew 5 = (zV5 g).2.2.2.2 := congrArg (fun v : V => v.2.2.2.2) v4
  refine ⟨fun q => ?_, hk, ?_, fun k hk9 => by rw [g5]; exact zV_t g hg k hk9⟩
  · have h : oE F 38 (sn F 38 (kL F 38)) = (38, 0) := by rw [hk, s4, f3]
    have q2 : ¬ (oE F 38 (sn F 38 (kL F 38))).2 = 0 ∨ (oE F 38 (sn F 38 (kL F 38))).1 < 38 := q
    rw [h] at q2
    exact q2.elim (fun q => q rfl) (fun q => absurd q (by decide))
  · unfold rS
    rw [hk]
    refine fd_none (fun j hj q => q ?_)
    rcases (show j = 0 ∨ j = 1 ∨ j = 2 ∨ j = 3 ∨ j = 4 by omega) with rfl | rfl | rfl | rfl | rfl
    · rw [v0]; exact w1
    · rw [v1]; exact w2
    · rw [v2]; exact w3
    · rw [v3]; exact w4
    · rw [v4]; exact w5
theorem zt_all {g : Nat} (hg : g < 3) : ¬ mal (iZ g) 38 ∧ kL (iZ g) 38 = 4 ∧ rS (iZ g) 38 gNew = 5 ∧ ∀ k, k < 128 → GS (iZ g) 38 gNew 5 k = zT1 g k := by
  have h1 := zt_f g hg
  have h2 := zt_k g hg
  have h3 := zt_v g hg
  generalize iZ g = F at h1 h2 h3 ⊢
  exact zt_gen hg h1 h2 h3
/-! what the third house answers -/
abbrev zsP (a : Int32) (G2 : Nat → Nat) (v : V) : Prop := v.1 = 0 ∧ v.2.1 = 0 ∧ v.2.2.2.1 = a ∧ ∀ k, k < 128 → v.2.2.2.2 k = G2 k
abbrev zrP (n w : Nat) (d : Int32) (v : V) : Prop := v.1 = n ∧ v.2.1 = w ∧ v.2.2.1 = d
theorem zn_f : gUnlike gNew = 5 ∧ enD gNew 0 = [97, 105, 117, 101, 47, 101, 111, 97, 105] ∧ enD gNew 2 = [105, 117, 101, 111, 47, 111, 97, 105, 117] ∧ gRw gNew 3 (-1) = 8 ∧ gWay gNew 2 2 = 0 := by decide +kernel
theorem z1_f : ∀ g, g < 3 → gCase (zT1 g) 0 = 0 ∧ gCase (zT1 g) 1 = 3 ∧ lnD (zT1 g) 0 = [gl g, 115, 97, 48, 45, 49] ∧ lnD (zT1 g) 1 = [gl g, 115, 101, 49, 45, 50, 64, 48] ∧ zT1 g 0 = 2 ∧ gl g < 128 := by decide +kernel
theorem z1_q : ∀ g, g < 3 → ¬ gAlike (zT1 g) 0 1 ∧ gCould (zT1 g) 0 = 1 ∧ gTwins (zT1 g) 1 = 2 ∧ gKeys (zT1 g) 0 = 1 ∧ gAgree (zT1 g) 0 g 0 0 = 3 ∧ gAgree (zT1 g) 0 (gH g) 1 3 = 0 := by decide +kernel
theorem zs1 : ∀ g, g < 3 → zsP (nI 2) (zT2 g) (vKnock (zT1 g) (nI 0) (nI g) 0 (nI 1)) := by decide +kernel
theorem zs2 : ∀ g, g < 3 → zsP (nI 0) (zT3 g) (vKnock (zT2 g) (nI 0) (nI (gH g)) 1 (nI 1)) := by decide +kernel
theorem z3_f : ∀ g, g < 3 → zT3 g 64 = 2 ∧ zT3 g 0 = 2 := by decide +kernel
theorem zr3 : ∀ g, g < 3 → zrP 2 6 (nI 2) (vFree (zT3 g) (nI 0) (nI 0)) := by decide +kernel
theorem zs3 : ∀ g, g < 3 → zsP (nI 2) (zT4 g) (vKnock (zT3 g) (nI 0) (nI (gH g)) 0 (nI 0)) := by decide +kernel
theorem z4_f : ∀ g, g < 3 → zT4 g 72 = 1 ∧ zT4 g 6 = 1 ∧ zT4 g 0 = 2 := by decide +kernel
theorem zr4 : ∀ g, g < 3 → zrP 3 3 (nI 1) (vKnock (zT4 g) (nI 0) (nI g) 0 (nI 0)) := by decide +kernel
theorem zs4 : ∀ g, g < 3 → zsP (nI 1) (zT5 g) (vKey (zT4 g) (nI 0) (nI (gH g))) := by decide +kernel
theorem zr5 : ∀ g, g < 3 → zrP 2 7 (nI 1) (vFree (zT5 g) (nI 1) (nI 0)) := by decide +kernel
theorem zs5 : ∀ g, g < 3 → zsP (nI 0) (zT6 g) (vFree (zT5 g) (nI 0) (nI 0)) := by decide +kernel
theorem z6_f : ∀ g, g < 3 → zT6 g 64 = 0 ∧ zT6 g 0 = 2 := by decide +kernel
theorem z6_b : ∀ g, g < 3 → gBb (zT6 g) 0 (zT6 g 0) = nI 0 ∧ gBb (zT6 g) 1 (zT6 g 0) = nI 0 := by decide +kernel
theorem zs6 : ∀ g, g < 3 → zsP (nI 3) (zT7 g) (vKnock (zT6 g) (nI 0) (nI g) 0 (nI 0)) := by decide +kernel
theorem z7_f : ∀ g, g < 3 → gBb (zT7 g) 0 (zT7 g 0) = nI 1 ∧ gWay (zT7 g) 0 1 = 1 ∧ gRw (zT7 g) 0 (-1) = 3 := by decide +kernel
theorem zr7 : ∀ g, g < 3 → zrP 3 4 (nI 1) (vKnock (zT7 g) (nI 0) (nI g) 0 (nI 0)) := by decide +kernel
theorem zs7 : ∀ g, g < 3 → zsP (nI 2) (zT8 g) (vKnock (zT7 g) (nI 1) (nI g) 0 (nI 0)) := by decide +kernel
theorem zs8 : ∀ g, g < 3 → zsP (nI 3) (zT9 g) (vKnock (zT8 g) (nI 1) (nI g) 0 (nI 3)) := by decide +kernel
theorem z9_f : ∀ g, g < 3 → zT9 g 65 = 0 ∧ zT9 g 0 = 2 ∧ zT9 g 3 = 6 ∧ zT9 g 4 = 2 ∧ zT9 g 5 = 4 := by decide +kernel
theorem z9_w : ∀ g, g < 3 → gWay (zT9 g) 0 2 = 2 ∧ gRw (zT9 g) 2 (-1) = 7 ∧ gRk (zT9 g) 104 (nI 0) = 0 := by decide +kernel
theorem zs9 : ∀ g, g < 3 → zsP (nI 1) (zT10 g) (vShut (zT9 g) (nI 0)) := by decide +kernel
theorem zr10 : ∀ g, g < 3 → zrP 2 5 (nI 1) (vShut (zT10 g) (nI 0)) := by decide +kernel
theorem zs10 : ∀ g, g < 3 → zsP (nI 3) (zT11 g) (vGovern (zT10 g) (nI 0) (nI 0)) := by decide +kernel
theorem z11_f : ∀ g, g < 3 → gAlike (zT11 g) 0 1 ∧ gTwins (zT11 g) 0 = 3 ∧ zT11 g 0 = 2 := by decide +kernel
theorem zs11 : ∀ g, g < 3 → zsP (nI 0) (zT12 g) (vSet (zT11 g) (nI 1) (-1)) := by decide +kernel
theorem zr12 : ∀ g, g < 3 → zrP 2 2 (-1) (vSet (zT12 g) (nI 1) (-1)) := by decide +kernel
theorem z12_f : ∀ g, g < 3 → zT12 g 0 = 2 ∧ zT12 g 2 = 2 := by decide +kernel
theorem zf_sh : FP.fdiv (FP.i2f (nI 2)) (FP.i2f (nI 6)) = 1051372203 := by decide +kernel
theorem zf_mk : FP.ddiv (FP.i2d (nI 6)) (FP.i2d (nI 2)) = 4613937818241073152 := by decide +kernel
theorem zf_c : Op.cmpValue (FP.fcmp 1051372203 1051372203) .l = 0 ∧ Op.cmpValue (FP.dcmp 4613937818241073152 4613937818241073152) .l = 0 := by decide +kernel
