theorem sm_inc {f g : Nat → Nat} {i : Nat} : ∀ {n : Nat}, i < n → (∀ d, d < n → g d = if d = i then f d + 1 else f d) → sm g n = sm f n + 1
  | 0, h, _ => absurd h (by omega)
  | n + 1, h, hg => by
    rw [sm, sm, hg n (by omega)]
    by_cases e : n = i
    · rw [if_pos e, sm_congr (f := g) (g := f) (fun d hd => by rw [hg d (by omega), if_neg (by omega)])]
      omega
    · rw [if_neg e, sm_inc (n := n) (by omega) (fun d hd => hg d (by omega))]
      omega
theorem gWf_mono {b c : Nat} {G : Nat → Nat} (h : gWf b G) (hbc : b ≤ c) (hc : c < 2 ^ 20) : gWf c G := by
  obtain ⟨_, g_k, r⟩ := id h
  exact ⟨hc, fun k hk => Nat.le_trans (g_k k hk) hbc, r⟩

set_option maxHeartbeats 4000000 in
theorem gWf_gDoor {b : Nat} {G : Nat → Nat} {a g z x y : Nat} (h0 : G 0 < 8) (ha : a < 3) (hg : g < 3) (hz : z ≤ 1) (hx : x < 6) (hy : y < 6) (h : gWf b G) (h25 : 25 ≤ b) (hb : b + 1 < 2 ^ 20) : gWf (b + 1) (gDoor G a g z x y) := by
  obtain ⟨g_b, g_k, g_0, g_1, g_2, g_e, g_d, g_t, g_y, g_s, g_h⟩ := id h
  have hu : ∀ j, (gDoor G a g z x y) j = if j = 0 then G 0 + 1 else if j = 96 + G 0 then y else if j = 88 + G 0 then x else if j = 48 + G 0 then z else if j = 40 + G 0 then g else if j = 32 + G 0 then a else G j := by
    intro j
    simp only [gDoor, va_up]
    repeat' split
    all_goals first | rfl | omega
  generalize (gDoor G a g z x y) = X at hu ⊢
  have k0 := g_k 0 (by omega)
  have k1 := g_k 1 (by omega)
  have k2 := g_k 2 (by omega)
  have k3 := g_k 3 (by omega)
  have k4 := g_k 4 (by omega)
  have k5 := g_k 5 (by omega)
  have k6 := g_k 6 (by omega)
  have k7 := g_k 7 (by omega)
  have u0 : X 0 = G 0 + 1 := by
    rw [hu]
    repeat' split
    all_goals first | rfl | omega
  have u1 : X 1 = G 1 := by
    rw [hu]
    repeat' split
    all_goals first | rfl | omega
  have u2 : X 2 = G 2 := by
    rw [hu]
    repeat' split
    all_goals first | rfl | omega
  have u3 : X 3 = G 3 := by
    rw [hu]
    repeat' split
    all_goals first | rfl | omega
  have u4 : X 4 = G 4 := by
    rw [hu]
    repeat' split
    all_goals first | rfl | omega
  have u5 : X 5 = G 5 := by
    rw [hu]
    repeat' split
    all_goals first | rfl | omega
  have u6 : X 6 = G 6 := by
    rw [hu]
    repeat' split
    all_goals first | rfl | omega
  have u7 : X 7 = G 7 := by
    rw [hu]
    repeat' split
    all_goals first | rfl | omega
  refine ⟨hb, ?_, by omega, by omega, by omega, ?_, ?_, ?_, ?_, by omega, ?_⟩
  · intro k hk
    have hkk := g_k k hk
    have z96 := g_k (96 + G 0) (by omega)
    have z88 := g_k (88 + G 0) (by omega)
    have z48 := g_k (48 + G 0) (by omega)
    have z40 := g_k (40 + G 0) (by omega)
    have z32 := g_k (32 + G 0) (by omega)
    rw [hu]
    repeat' split
    all_goals omega
  · intro k hk
    have hkk := g_e k hk
    rw [hu]
    repeat' split
    all_goals omega
  · intro d hd
    obtain ⟨w_a, w_g, w_n, w_s, w_w, w_l, w_o, w_x, w_y, w_1, w_2, w_3, w_4⟩ := g_d d hd
    by_cases hdi : d = G 0
    · skip
      have v32 : X (32 + d) = a := by
        rw [hu]
        repeat' split
        all_goals first | rfl | omega
      have v40 : X (40 + d) = g := by
        rw [hu]
        repeat' split
        all_goals first | rfl | omega
      have v48 : X (48 + d) = z := by
        rw [hu]
        repeat' split
        all_goals first | rfl | omega
      have v56 : X (56 + d) = G (56 + d) := by
        rw [hu]
        repeat' split
        all_goals first | rfl | omega
      have v64 : X (64 + d) = G (64 + d) := by
        rw [hu]
        repeat' split
        all_goals first | rfl | omega
      have v72 : X (72 + d) = G (72 + d) := by
        rw [hu]
        repeat' split
        all_goals first | rfl | omega
      have v80 : X (80 + d) = G (80 + d) := by
        rw [hu]
        repeat' split
        all_goals first | rfl | omega
      have v88 : X (88 + d) = x := by
        rw [hu]
        repeat' split
        all_goals first | rfl | omega
      have v96 : X (96 + d) = y := by
        rw [hu]
        repeat' split
        all_goals first | rfl | omega
      have v104 : X (104 + d) = G (104 + d) := by
        rw [hu]
        repeat' split
        all_goals first | rfl | omega
      unfold gWd
      omega
    · have v32 : X (32 + d) = G (32 + d) := by
        rw [hu]
        repeat' split
        all_goals first | rfl | omega
      have v40 : X (40 + d) = G (40 + d) := by
        rw [hu]
        repeat' split
        all_goals first | rfl | omega
      have v48 : X (48 + d) = G (48 + d) := by
        rw [hu]
        repeat' split
        all_goals first | rfl | omega
      have v56 : X (56 + d) = G (56 + d) := by
        rw [hu]
        repeat' split
        all_goals first | rfl | omega
      have v64 : X (64 + d) = G (64 + d) := by
        rw [hu]
        repeat' split
        all_goals first | rfl | omega
      have v72 : X (72 + d) = G (72 + d) := by
        rw [hu]
        repeat' split
        all_goals first | rfl | omega
      have v80 : X (80 + d) = G (80 + d) := by
        rw [hu]
        repeat' split
        all_goals first | rfl | omega
      have v88 : X (88 + d) = G (88 + d) := by
        rw [hu]
        repeat' split
        all_goals first | rfl | omega
      have v96 : X (96 + d) = G (96 + d) := by
        rw [hu]
        repeat' split
        all_goals first | rfl | omega
      have v104 : X (104 + d) = G (104 + d) := by
        rw [hu]
        repeat' split
        all_goals first | rfl | omega
      unfold gWd
      omega
  · intro t ht
    have hkk := g_t t ht
    rw [hu]
    repeat' split
    all_goals omega
  · intro k hk
    have hkk := g_y k hk
    constructor
    · rw [hu]
      repeat' split
      all_goals omega
    · rw [hu]
      repeat' split
      all_goals omega
  · rw [u3, g_h]
    refine sm_congr (fun d hd => ?_)
    rw [hu]
    repeat' split
    all_goals first | rfl | omega

set_option maxHeartbeats 4000000 in
theorem gWf_gSill {b : Nat} {G : Nat → Nat} {c : Nat} (h0 : G 1 < 6) (hc : c < 4) (h : gWf b G) (h25 : 25 ≤ b) (hb : b + 1 < 2 ^ 20) : gWf (b + 1) (gSill G c) := by
  obtain ⟨g_b, g_k, g_0, g_1, g_2, g_e, g_d, g_t, g_y, g_s, g_h⟩ := id h
  have hu : ∀ j, (gSill G c) j = if j = 1 then G 1 + 1 else if j = 112 + G 1 then c else G j := by
    intro j
    simp only [gSill, va_up]
    repeat' split
    all_goals first | rfl | omega
  generalize (gSill G c) = X at hu ⊢
  have k0 := g_k 0 (by omega)
  have k1 := g_k 1 (by omega)
  have k2 := g_k 2 (by omega)
  have k3 := g_k 3 (by omega)
  have k4 := g_k 4 (by omega)
  have k5 := g_k 5 (by omega)
  have k6 := g_k 6 (by omega)
  have k7 := g_k 7 (by omega)
  have u0 : X 0 = G 0 := by
    rw [hu]
    repeat' split
    all_goals first | rfl | omega
  have u1 : X 1 = G 1 + 1 := by
    rw [hu]
    repeat' split
    all_goals first | rfl | omega
  have u2 : X 2 = G 2 := by
    rw [hu]
    repeat' split
    all_goals first | rfl | omega
  have u3 : X 3 = G 3 := by
    rw [hu]
    repeat' split
    all_goals first | rfl | omega
  have u4 : X 4 = G 4 := by
    rw [hu]
    repeat' split
    all_goals first | rfl | omega
  have u5 : X 5 = G 5 := by
    rw [hu]
    repeat' split
    all_goals first | rfl | omega
  have u6 : X 6 = G 6 := by
    rw [hu]
    repeat' split
    all_goals first | rfl | omega
  have u7 : X 7 = G 7 := by
    rw [hu]
    repeat' split
    all_goals first | rfl | omega
  refine ⟨hb, ?_, by omega, by omega, by omega, ?_, ?_, ?_, ?_, by omega, ?_⟩
  · intro k hk
    have hkk := g_k k hk
    have z112 := g_k (112 + G 1) (by omega)
    rw [hu]
    repeat' split
    all_goals omega
  · intro k hk
    have hkk := g_e k hk
    rw [hu]
    repeat' split
    all_goals omega
  · intro d hd
    obtain ⟨w_a, w_g, w_n, w_s, w_w, w_l, w_o, w_x, w_y, w_1, w_2, w_3, w_4⟩ := g_d d hd
    have v32 : X (32 + d) = G (32 + d) := by
      rw [hu]
      repeat' split
      all_goals first | rfl | omega
    have v40 : X (40 + d) = G (40 + d) := by
      rw [hu]
      repeat' split
      all_goals first | rfl | omega
    have v48 : X (48 + d) = G (48 + d) := by
      rw [hu]
      repeat' split
      all_goals first | rfl | omega
    have v56 : X (56 + d) = G (56 + d) := by
      rw [hu]
      repeat' split
      all_goals first | rfl | omega
    have v64 : X (64 + d) = G (64 + d) := by
      rw [hu]
      repeat' split
      all_goals first | rfl | omega
    have v72 : X (72 + d) = G (72 + d) := by
      rw [hu]
      repeat' split
      all_goals first | rfl | omega
    have v80 : X (80 + d) = G (80 + d) := by
      rw [hu]
      repeat' split
      all_goals first | rfl | omega
    have v88 : X (88 + d) = G (88 + d) := by
      rw [hu]
      repeat' split
      all_goals first | rfl | omega
    have v96 : X (96 + d) = G (96 + d) := by
      rw [hu]
      repeat' split
      all_goals first | rfl | omega
    have v104 : X (104 + d) = G (104 + d) := by
      rw [hu]
      repeat' split
      all_goals first | rfl | omega
    unfold gWd
    omega
  · intro t ht
    have hkk := g_t t ht
    rw [hu]
    repeat' split
    all_goals omega
  · intro k hk
    have hkk := g_y k hk
    constructor
    · rw [hu]
      repeat' split
      all_goals omega
    · rw [hu]
      repeat' split
      all_goals omega
  · rw [u3, g_h]
    refine sm_congr (fun d hd => ?_)
    rw [hu]
    repeat' split
    all_goals first | rfl | omega

set_option maxHeartbeats 4000000 in
theorem gWf_gGov {b : Nat} {G : Nat → Nat} {t c : Nat} (h0 : t < G 1) (hc : c < 4) (h : gWf b G) (h25 : 25 ≤ b) (hb : b + 1 < 2 ^ 20) : gWf (b + 1) (va_up G (112 + t) c) := by
  obtain ⟨g_b, g_k, g_0, g_1, g_2, g_e, g_d, g_t, g_y, g_s, g_h⟩ := id h
  have hu : ∀ j, (va_up G (112 + t) c) j = if j = 112 + t then c else G j := by
    intro j
    simp only [va_up]
    repeat' split
    all_goals first | rfl | omega
  generalize (va_up G (112 + t) c) = X at hu ⊢
  have k0 := g_k 0 (by omega)
  have k1 := g_k 1 (by omega)
  have k2 := g_k 2 (by omega)
  have k3 := g_k 3 (by omega)
  have k4 := g_k 4 (by omega)
  have k5 := g_k 5 (by omega)
  have k6 := g_k 6 (by omega)
  have k7 := g_k 7 (by omega)
  have u0 : X 0 = G 0 := by
    rw [hu]
    repeat' split
    all_goals first | rfl | omega
  have u1 : X 1 = G 1 := by
    rw [hu]
    repeat' split
    all_goals first | rfl | omega
  have u2 : X 2 = G 2 := by
    rw [hu]
    repeat' split
    all_goals first | rfl | omega
  have u3 : X 3 = G 3 := by
    rw [hu]
    repeat' split
    all_goals first | rfl | omega
  have u4 : X 4 = G 4 := by
    rw [hu]
    repeat' split
    all_goals first | rfl | omega
  have u5 : X 5 = G 5 := by
    rw [hu]
    repeat' split
    all_goals first | rfl | omega
  have u6 : X 6 = G 6 := by
    rw [hu]
    repeat' split
    all_goals first | rfl | omega
  have u7 : X 7 = G 7 := by
    rw [hu]
    repeat' split
    all_goals first | rfl | omega
  refine ⟨hb, ?_, by omega, by omega, by omega, ?_, ?_, ?_, ?_, by omega, ?_⟩
  · intro k hk
    have hkk := g_k k hk
    have z112 := g_k (112 + t) (by omega)
    rw [hu]
    repeat' split
    all_goals omega
  · intro k hk
    have hkk := g_e k hk
    rw [hu]
    repeat' split
    all_goals omega
  · intro d hd
    obtain ⟨w_a, w_g, w_n, w_s, w_w, w_l, w_o, w_x, w_y, w_1, w_2, w_3, w_4⟩ := g_d d hd
    have v32 : X (32 + d) = G (32 + d) := by
      rw [hu]
      repeat' split
      all_goals first | rfl | omega
    have v40 : X (40 + d) = G (40 + d) := by
      rw [hu]
      repeat' split
      all_goals first | rfl | omega
    have v48 : X (48 + d) = G (48 + d) := by
      rw [hu]
      repeat' split
      all_goals first | rfl | omega
    have v56 : X (56 + d) = G (56 + d) := by
      rw [hu]
      repeat' split
      all_goals first | rfl | omega
    have v64 : X (64 + d) = G (64 + d) := by
      rw [hu]
      repeat' split
      all_goals first | rfl | omega
    have v72 : X (72 + d) = G (72 + d) := by
      rw [hu]
      repeat' split
      all_goals first | rfl | omega
    have v80 : X (80 + d) = G (80 + d) := by
      rw [hu]
      repeat' split
      all_goals first | rfl | omega
    have v88 : X (88 + d) = G (88 + d) := by
      rw [hu]
      repeat' split
      all_goals first | rfl | omega
    have v96 : X (96 + d) = G (96 + d) := by
      rw [hu]
      repeat' split
      all_goals first | rfl | omega
    have v104 : X (104 + d) = G (104 + d) := by
      rw [hu]
      repeat' split
      all_goals first | rfl | omega
    unfold gWd
    omega
  · intro t ht
    have hkk := g_t t ht
    rw [hu]
    repeat' split
    all_goals omega
  · intro k hk
    have hkk := g_y k hk
    constructor
    · rw [hu]
      repeat' split
      all_goals omega
    · rw [hu]
      repeat' split
      all_goals omega
  · rw [u3, g_h]
    refine sm_congr (fun d hd => ?_)
    rw [hu]
    repeat' split
    all_goals first | rfl | omega

set_option maxHeartbeats 4000000 in
theorem gWf_gSet {b : Nat} {G : Nat → Nat} {i v : Nat} (h0 : i < G 0) (hv : v ≤ G 1) (h : gWf b G) (h25 : 25 ≤ b) (hb : b + 1 < 2 ^ 20) : gWf (b + 1) (va_up G (56 + i) v) := by
  obtain ⟨g_b, g_k, g_0, g_1, g_2, g_e, g_d, g_t, g_y, g_s, g_h⟩ := id h
  have hu : ∀ j, (va_up G (56 + i) v) j = if j = 56 + i then v else G j := by
    intro j
    simp only [va_up]
    repeat' split
    all_goals first | rfl | omega
  generalize (va_up G (56 + i) v) = X at hu ⊢
  have k0 := g_k 0 (by omega)
  have k1 := g_k 1 (by omega)
  have k2 := g_k 2 (by omega)
  have k3 := g_k 3 (by omega)
  have k4 := g_k 4 (by omega)
  have k5 := g_k 5 (by omega)
  have k6 := g_k 6 (by omega)
  have k7 := g_k 7 (by omega)
  have u0 : X 0 = G 0 := by
    rw [hu]
    repeat' split
    all_goals first | rfl | omega
  have u1 : X 1 = G 1 := by
    rw [hu]
    repeat' split
    all_goals first | rfl | omega
  have u2 : X 2 = G 2 := by
    rw [hu]
    repeat' split
    all_goals first | rfl | omega
  have u3 : X 3 = G 3 := by
    rw [hu]
    repeat' split
    all_goals first | rfl | omega
  have u4 : X 4 = G 4 := by
    rw [hu]
    repeat' split
    all_goals first | rfl | omega
  have u5 : X 5 = G 5 := by
    rw [hu]
    repeat' split
    all_goals first | rfl | omega
  have u6 : X 6 = G 6 := by
    rw [hu]
    repeat' split
    all_goals first | rfl | omega
  have u7 : X 7 = G 7 := by
    rw [hu]
    repeat' split
    all_goals first | rfl | omega
  refine ⟨hb, ?_, by omega, by omega, by omega, ?_, ?_, ?_, ?_, by omega, ?_⟩
  · intro k hk
    have hkk := g_k k hk
    have z56 := g_k (56 + i) (by omega)
    rw [hu]
    repeat' split
    all_goals omega
  · intro k hk
    have hkk := g_e k hk
    rw [hu]
    repeat' split
    all_goals omega
  · intro d hd
    obtain ⟨w_a, w_g, w_n, w_s, w_w, w_l, w_o, w_x, w_y, w_1, w_2, w_3, w_4⟩ := g_d d hd
    by_cases hdi : d = i
    · subst hdi
      have v32 : X (32 + d) = G (32 + d) := by
        rw [hu]
        repeat' split
        all_goals first | rfl | omega
      have v40 : X (40 + d) = G (40 + d) := by
        rw [hu]
        repeat' split
        all_goals first | rfl | omega
      have v48 : X (48 + d) = G (48 + d) := by
        rw [hu]
        repeat' split
        all_goals first | rfl | omega
      have v56 : X (56 + d) = v := by
        rw [hu]
        repeat' split
        all_goals first | rfl | omega
      have v64 : X (64 + d) = G (64 + d) := by
        rw [hu]
        repeat' split
        all_goals first | rfl | omega
      have v72 : X (72 + d) = G (72 + d) := by
        rw [hu]
        repeat' split
        all_goals first | rfl | omega
      have v80 : X (80 + d) = G (80 + d) := by
        rw [hu]
        repeat' split
        all_goals first | rfl | omega
      have v88 : X (88 + d) = G (88 + d) := by
        rw [hu]
        repeat' split
        all_goals first | rfl | omega
      have v96 : X (96 + d) = G (96 + d) := by
        rw [hu]
        repeat' split
        all_goals first | rfl | omega
      have v104 : X (104 + d) = G (104 + d) := by
        rw [hu]
        repeat' split
        all_goals first | rfl | omega
      unfold gWd
      omega
    · have v32 : X (32 + d) = G (32 + d) := by
        rw [hu]
        repeat' split
        all_goals first | rfl | omega
      have v40 : X (40 + d) = G (40 + d) := by
        rw [hu]
        repeat' split
        all_goals first | rfl | omega
      have v48 : X (48 + d) = G (48 + d) := by
        rw [hu]
        repeat' split
        all_goals first | rfl | omega
      have v56 : X (56 + d) = G (56 + d) := by
        rw [hu]
        repeat' split
        all_goals first | rfl | omega
      have v64 : X (64 + d) = G (64 + d) := by
        rw [hu]
        repeat' split
        all_goals first | rfl | omega
      have v72 : X (72 + d) = G (72 + d) := by
        rw [hu]
        repeat' split
        all_goals first | rfl | omega
      have v80 : X (80 + d) = G (80 + d) := by
        rw [hu]
        repeat' split
        all_goals first | rfl | omega
      have v88 : X (88 + d) = G (88 + d) := by
        rw [hu]
        repeat' split
        all_goals first | rfl | omega
      have v96 : X (96 + d) = G (96 + d) := by
        rw [hu]
        repeat' split
        all_goals first | rfl | omega
      have v104 : X (104 + d) = G (104 + d) := by
        rw [hu]
        repeat' split
        all_goals first | rfl | omega
      unfold gWd
      omega
  · intro t ht
    have hkk := g_t t ht
    rw [hu]
    repeat' split
    all_goals omega
  · intro k hk
    have hkk := g_y k hk
    constructor
    · rw [hu]
      repeat' split
      all_goals omega
    · rw [hu]
      repeat' split
      all_goals omega
  · rw [u3, g_h]
    refine sm_congr (fun d hd => ?_)
    rw [hu]
    repeat' split
    all_goals first | rfl | omega

set_option maxHeartbeats 4000000 in
theorem gWf_gTell {b : Nat} {G : Nat → Nat} {i v : Nat} (h0 : i < 24) (hv : v ≤ 25) (h : gWf b G) (h25 : 25 ≤ b) (hb : b + 1 < 2 ^ 20) : gWf (b + 1) (va_up G (8 + i) v) := by
  obtain ⟨g_b, g_k, g_0, g_1, g_2, g_e, g_d, g_t, g_y, g_s, g_h⟩ := id h
  have hu : ∀ j, (va_up G (8 + i) v) j = if j = 8 + i then v else G j := by
    intro j
    simp only [va_up]
    repeat' split
    all_goals first | rfl | omega
  generalize (va_up G (8 + i) v) = X at hu ⊢
  have k0 := g_k 0 (by omega)
  have k1 := g_k 1 (by omega)
  have k2 := g_k 2 (by omega)
  have k3 := g_k 3 (by omega)
  have k4 := g_k 4 (by omega)
  have k5 := g_k 5 (by omega)
  have k6 := g_k 6 (by omega)
  have k7 := g_k 7 (by omega)
  have u0 : X 0 = G 0 := by
    rw [hu]
    repeat' split
    all_goals first | rfl | omega
  have u1 : X 1 = G 1 := by
    rw [hu]
    repeat' split
    all_goals first | rfl | omega
  have u2 : X 2 = G 2 := by
    rw [hu]
    repeat' split
    all_goals first | rfl | omega
  have u3 : X 3 = G 3 := by
    rw [hu]
    repeat' split
    all_goals first | rfl | omega
  have u4 : X 4 = G 4 := by
    rw [hu]
    repeat' split
    all_goals first | rfl | omega
  have u5 : X 5 = G 5 := by
    rw [hu]
    repeat' split
    all_goals first | rfl | omega
  have u6 : X 6 = G 6 := by
    rw [hu]
    repeat' split
    all_goals first | rfl | omega
  have u7 : X 7 = G 7 := by
    rw [hu]
    repeat' split
    all_goals first | rfl | omega
  refine ⟨hb, ?_, by omega, by omega, by omega, ?_, ?_, ?_, ?_, by omega, ?_⟩
  · intro k hk
    have hkk := g_k k hk
    have z8 := g_k (8 + i) (by omega)
    rw [hu]
    repeat' split
    all_goals omega
  · intro k hk
    have hkk := g_e k hk
    rw [hu]
    repeat' split
    all_goals omega
  · intro d hd
    obtain ⟨w_a, w_g, w_n, w_s, w_w, w_l, w_o, w_x, w_y, w_1, w_2, w_3, w_4⟩ := g_d d hd
    have v32 : X (32 + d) = G (32 + d) := by
      rw [hu]
      repeat' split
      all_goals first | rfl | omega
    have v40 : X (40 + d) = G (40 + d) := by
      rw [hu]
      repeat' split
      all_goals first | rfl | omega
    have v48 : X (48 + d) = G (48 + d) := by
      rw [hu]
      repeat' split
      all_goals first | rfl | omega
    have v56 : X (56 + d) = G (56 + d) := by
      rw [hu]
      repeat' split
      all_goals first | rfl | omega
    have v64 : X (64 + d) = G (64 + d) := by
      rw [hu]
      repeat' split
      all_goals first | rfl | omega
    have v72 : X (72 + d) = G (72 + d) := by
      rw [hu]
      repeat' split
      all_goals first | rfl | omega
    have v80 : X (80 + d) = G (80 + d) := by
      rw [hu]
      repeat' split
      all_goals first | rfl | omega
    have v88 : X (88 + d) = G (88 + d) := by
      rw [hu]
      repeat' split
      all_goals first | rfl | omega
    have v96 : X (96 + d) = G (96 + d) := by
      rw [hu]
      repeat' split
      all_goals first | rfl | omega
    have v104 : X (104 + d) = G (104 + d) := by
      rw [hu]
      repeat' split
      all_goals first | rfl | omega
    unfold gWd
    omega
  · intro t ht
    have hkk := g_t t ht
    rw [hu]
    repeat' split
    all_goals omega
  · intro k hk
    have hkk := g_y k hk
    constructor
    · rw [hu]
      repeat' split
      all_goals omega
    · rw [hu]
      repeat' split
      all_goals omega
  · rw [u3, g_h]
    refine sm_congr (fun d hd => ?_)
    rw [hu]
    repeat' split
    all_goals first | rfl | omega

set_option maxHeartbeats 4000000 in
theorem gWf_gKey {b : Nat} {G : Nat → Nat} {a g : Nat} (h0 : G 2 < 5) (ha : a < 3) (hg : g < 3) (h : gWf b G) (h25 : 25 ≤ b) (hb : b + 1 < 2 ^ 20) : gWf (b + 1) (gKey G a g) := by
  obtain ⟨g_b, g_k, g_0, g_1, g_2, g_e, g_d, g_t, g_y, g_s, g_h⟩ := id h
  have hu : ∀ j, (gKey G a g) j = if j = 2 then G 2 + 1 else if j = 123 + G 2 then g else if j = 118 + G 2 then a else G j := by
    intro j
    simp only [gKey, va_up]
    repeat' split
    all_goals first | rfl | omega
  generalize (gKey G a g) = X at hu ⊢
  have k0 := g_k 0 (by omega)
  have k1 := g_k 1 (by omega)
  have k2 := g_k 2 (by omega)
  have k3 := g_k 3 (by omega)
  have k4 := g_k 4 (by omega)
  have k5 := g_k 5 (by omega)
  have k6 := g_k 6 (by omega)
  have k7 := g_k 7 (by omega)
  have u0 : X 0 = G 0 := by
    rw [hu]
    repeat' split
    all_goals first | rfl | omega
  have u1 : X 1 = G 1 := by
    rw [hu]
    repeat' split
    all_goals first | rfl | omega
  have u2 : X 2 = G 2 + 1 := by
    rw [hu]
    repeat' split
    all_goals first | rfl | omega
  have u3 : X 3 = G 3 := by
    rw [hu]
    repeat' split
    all_goals first | rfl | omega
  have u4 : X 4 = G 4 := by
    rw [hu]
    repeat' split
    all_goals first | rfl | omega
  have u5 : X 5 = G 5 := by
    rw [hu]
    repeat' split
    all_goals first | rfl | omega
  have u6 : X 6 = G 6 := by
    rw [hu]
    repeat' split
    all_goals first | rfl | omega
  have u7 : X 7 = G 7 := by
    rw [hu]
    repeat' split
    all_goals first | rfl | omega
  refine ⟨hb, ?_, by omega, by omega, by omega, ?_, ?_, ?_, ?_, by omega, ?_⟩
  · intro k hk
    have hkk := g_k k hk
    have z123 := g_k (123 + G 2) (by omega)
    have z118 := g_k (118 + G 2) (by omega)
    rw [hu]
    repeat' split
    all_goals omega
  · intro k hk
    have hkk := g_e k hk
    rw [hu]
    repeat' split
    all_goals omega
  · intro d hd
    obtain ⟨w_a, w_g, w_n, w_s, w_w, w_l, w_o, w_x, w_y, w_1, w_2, w_3, w_4⟩ := g_d d hd
    have v32 : X (32 + d) = G (32 + d) := by
      rw [hu]
      repeat' split
      all_goals first | rfl | omega
    have v40 : X (40 + d) = G (40 + d) := by
      rw [hu]
      repeat' split
      all_goals first | rfl | omega
    have v48 : X (48 + d) = G (48 + d) := by
      rw [hu]
      repeat' split
      all_goals first | rfl | omega
    have v56 : X (56 + d) = G (56 + d) := by
      rw [hu]
      repeat' split
      all_goals first | rfl | omega
    have v64 : X (64 + d) = G (64 + d) := by
      rw [hu]
      repeat' split
      all_goals first | rfl | omega
    have v72 : X (72 + d) = G (72 + d) := by
      rw [hu]
      repeat' split
      all_goals first | rfl | omega
    have v80 : X (80 + d) = G (80 + d) := by
      rw [hu]
      repeat' split
      all_goals first | rfl | omega
    have v88 : X (88 + d) = G (88 + d) := by
      rw [hu]
      repeat' split
      all_goals first | rfl | omega
    have v96 : X (96 + d) = G (96 + d) := by
      rw [hu]
      repeat' split
      all_goals first | rfl | omega
    have v104 : X (104 + d) = G (104 + d) := by
      rw [hu]
      repeat' split
      all_goals first | rfl | omega
    unfold gWd
    omega
  · intro t ht
    have hkk := g_t t ht
    rw [hu]
    repeat' split
    all_goals omega
  · intro k hk
    have hkk := g_y k hk
    constructor
    · rw [hu]
      repeat' split
      all_goals omega
    · rw [hu]
      repeat' split
      all_goals omega
  · rw [u3, g_h]
    refine sm_congr (fun d hd => ?_)
    rw [hu]
    repeat' split
    all_goals first | rfl | omega

set_option maxHeartbeats 4000000 in
theorem gWf_gShut {b : Nat} {G : Nat → Nat} {i : Nat} (h0 : i < G 0) (h : gWf b G) (h25 : 25 ≤ b) (hb : b + 1 < 2 ^ 20) : gWf (b + 1) (va_up G (80 + i) 0) := by
  obtain ⟨g_b, g_k, g_0, g_1, g_2, g_e, g_d, g_t, g_y, g_s, g_h⟩ := id h
  have hu : ∀ j, (va_up G (80 + i) 0) j = if j = 80 + i then 0 else G j := by
    intro j
    simp only [va_up]
    repeat' split
    all_goals first | rfl | omega
  generalize (va_up G (80 + i) 0) = X at hu ⊢
  have k0 := g_k 0 (by omega)
  have k1 := g_k 1 (by omega)
  have k2 := g_k 2 (by omega)
  have k3 := g_k 3 (by omega)
  have k4 := g_k 4 (by omega)
  have k5 := g_k 5 (by omega)
  have k6 := g_k 6 (by omega)
  have k7 := g_k 7 (by omega)
  have u0 : X 0 = G 0 := by
    rw [hu]
    repeat' split
    all_goals first | rfl | omega
  have u1 : X 1 = G 1 := by
    rw [hu]
    repeat' split
    all_goals first | rfl | omega
  have u2 : X 2 = G 2 := by
    rw [hu]
    repeat' split
    all_goals first | rfl | omega
  have u3 : X 3 = G 3 := by
    rw [hu]
    repeat' split
    all_goals first | rfl | omega
  have u4 : X 4 = G 4 := by
    rw [hu]
    repeat' split
    all_goals first | rfl | omega
  have u5 : X 5 = G 5 := by
    rw [hu]
    repeat' split
    all_goals first | rfl | omega
  have u6 : X 6 = G 6 := by
    rw [hu]
    repeat' split
    all_goals first | rfl | omega
  have u7 : X 7 = G 7 := by
    rw [hu]
    repeat' split
    all_goals first | rfl | omega
  refine ⟨hb, ?_, by omega, by omega, by omega, ?_, ?_, ?_, ?_, by omega, ?_⟩
  · intro k hk
    have hkk := g_k k hk
    have z80 := g_k (80 + i) (by omega)
    rw [hu]
    repeat' split
    all_goals omega
  · intro k hk
    have hkk := g_e k hk
    rw [hu]
    repeat' split
    all_goals omega
  · intro d hd
    obtain ⟨w_a, w_g, w_n, w_s, w_w, w_l, w_o, w_x, w_y, w_1, w_2, w_3, w_4⟩ := g_d d hd
    by_cases hdi : d = i
    · subst hdi
      have v32 : X (32 + d) = G (32 + d) := by
        rw [hu]
        repeat' split
        all_goals first | rfl | omega
      have v40 : X (40 + d) = G (40 + d) := by
        rw [hu]
        repeat' split
        all_goals first | rfl | omega
      have v48 : X (48 + d) = G (48 + d) := by
        rw [hu]
        repeat' split
        all_goals first | rfl | omega
      have v56 : X (56 + d) = G (56 + d) := by
        rw [hu]
        repeat' split
        all_goals first | rfl | omega
      have v64 : X (64 + d) = G (64 + d) := by
        rw [hu]
        repeat' split
        all_goals first | rfl | omega
      have v72 : X (72 + d) = G (72 + d) := by
        rw [hu]
        repeat' split
        all_goals first | rfl | omega
      have v80 : X (80 + d) = 0 := by
        rw [hu]
        repeat' split
        all_goals first | rfl | omega
      have v88 : X (88 + d) = G (88 + d) := by
        rw [hu]
        repeat' split
        all_goals first | rfl | omega
      have v96 : X (96 + d) = G (96 + d) := by
        rw [hu]
        repeat' split
        all_goals first | rfl | omega
      have v104 : X (104 + d) = G (104 + d) := by
        rw [hu]
        repeat' split
        all_goals first | rfl | omega
      unfold gWd
      omega
    · have v32 : X (32 + d) = G (32 + d) := by
        rw [hu]
        repeat' split
        all_goals first | rfl | omega
      have v40 : X (40 + d) = G (40 + d) := by
        rw [hu]
        repeat' split
        all_goals first | rfl | omega
      have v48 : X (48 + d) = G (48 + d) := by
        rw [hu]
        repeat' split
        all_goals first | rfl | omega
      have v56 : X (56 + d) = G (56 + d) := by
        rw [hu]
        repeat' split
        all_goals first | rfl | omega
      have v64 : X (64 + d) = G (64 + d) := by
        rw [hu]
        repeat' split
        all_goals first | rfl | omega
      have v72 : X (72 + d) = G (72 + d) := by
        rw [hu]
        repeat' split
        all_goals first | rfl | omega
      have v80 : X (80 + d) = G (80 + d) := by
        rw [hu]
        repeat' split
        all_goals first | rfl | omega
      have v88 : X (88 + d) = G (88 + d) := by
        rw [hu]
        repeat' split
        all_goals first | rfl | omega
      have v96 : X (96 + d) = G (96 + d) := by
        rw [hu]
        repeat' split
        all_goals first | rfl | omega
      have v104 : X (104 + d) = G (104 + d) := by
        rw [hu]
        repeat' split
        all_goals first | rfl | omega
      unfold gWd
      omega
  · intro t ht
    have hkk := g_t t ht
    rw [hu]
    repeat' split
    all_goals omega
  · intro k hk
    have hkk := g_y k hk
    constructor
    · rw [hu]
      repeat' split
      all_goals omega
    · rw [hu]
      repeat' split
      all_goals omega
  · rw [u3, g_h]
    refine sm_congr (fun d hd => ?_)
    rw [hu]
    repeat' split
    all_goals first | rfl | omega

set_option maxHeartbeats 4000000 in
theorem gWf_gFree {b : Nat} {G : Nat → Nat} {i : Nat} (h0 : i < G 0) (h : gWf b G) (h25 : 25 ≤ b) (hb : b + 1 < 2 ^ 20) : gWf (b + 1) (gFree G i) := by
  obtain ⟨g_b, g_k, g_0, g_1, g_2, g_e, g_d, g_t, g_y, g_s, g_h⟩ := id h
  have hu : ∀ j, (gFree G i) j = if j = 7 then G 7 + 1 else if j = 64 + i then 0 else if j = 72 + i then 0 else G j := by
    intro j
    simp only [gFree, va_up]
    repeat' split
    all_goals first | rfl | omega
  generalize (gFree G i) = X at hu ⊢
  have k0 := g_k 0 (by omega)
  have k1 := g_k 1 (by omega)
  have k2 := g_k 2 (by omega)
  have k3 := g_k 3 (by omega)
  have k4 := g_k 4 (by omega)
  have k5 := g_k 5 (by omega)
  have k6 := g_k 6 (by omega)
  have k7 := g_k 7 (by omega)
  have u0 : X 0 = G 0 := by
    rw [hu]
    repeat' split
    all_goals first | rfl | omega
  have u1 : X 1 = G 1 := by
    rw [hu]
    repeat' split
    all_goals first | rfl | omega
  have u2 : X 2 = G 2 := by
    rw [hu]
    repeat' split
    all_goals first | rfl | omega
  have u3 : X 3 = G 3 := by
    rw [hu]
    repeat' split
    all_goals first | rfl | omega
  have u4 : X 4 = G 4 := by
    rw [hu]
    repeat' split
    all_goals first | rfl | omega
  have u5 : X 5 = G 5 := by
    rw [hu]
    repeat' split
    all_goals first | rfl | omega
  have u6 : X 6 = G 6 := by
    rw [hu]
    repeat' split
    all_goals first | rfl | omega
  have u7 : X 7 = G 7 + 1 := by
    rw [hu]
    repeat' split
    all_goals first | rfl | omega
  refine ⟨hb, ?_, by omega, by omega, by omega, ?_, ?_, ?_, ?_, by omega, ?_⟩
  · intro k hk
    have hkk := g_k k hk
    have z64 := g_k (64 + i) (by omega)
    have z72 := g_k (72 + i) (by omega)
    rw [hu]
    repeat' split
    all_goals omega
  · intro k hk
    have hkk := g_e k hk
    rw [hu]
    repeat' split
    all_goals omega
  · intro d hd
    obtain ⟨w_a, w_g, w_n, w_s, w_w, w_l, w_o, w_x, w_y, w_1, w_2, w_3, w_4⟩ := g_d d hd
    by_cases hdi : d = i
    · subst hdi
      have v32 : X (32 + d) = G (32 + d) := by
        rw [hu]
        repeat' split
        all_goals first | rfl | omega
      have v40 : X (40 + d) = G (40 + d) := by
        rw [hu]
        repeat' split
        all_goals first | rfl | omega
      have v48 : X (48 + d) = G (48 + d) := by
        rw [hu]
        repeat' split
        all_goals first | rfl | omega
      have v56 : X (56 + d) = G (56 + d) := by
        rw [hu]
        repeat' split
        all_goals first | rfl | omega
      have v64 : X (64 + d) = 0 := by
        rw [hu]
        repeat' split
        all_goals first | rfl | omega
      have v72 : X (72 + d) = 0 := by
        rw [hu]
        repeat' split
        all_goals first | rfl | omega
      have v80 : X (80 + d) = G (80 + d) := by
        rw [hu]
        repeat' split
        all_goals first | rfl | omega
      have v88 : X (88 + d) = G (88 + d) := by
        rw [hu]
        repeat' split
        all_goals first | rfl | omega
      have v96 : X (96 + d) = G (96 + d) := by
        rw [hu]
        repeat' split
        all_goals first | rfl | omega
      have v104 : X (104 + d) = G (104 + d) := by
        rw [hu]
        repeat' split
        all_goals first | rfl | omega
      unfold gWd
      omega
    · have v32 : X (32 + d) = G (32 + d) := by
        rw [hu]
        repeat' split
        all_goals first | rfl | omega
      have v40 : X (40 + d) = G (40 + d) := by
        rw [hu]
        repeat' split
        all_goals first | rfl | omega
      have v48 : X (48 + d) = G (48 + d) := by
        rw [hu]
        repeat' split
        all_goals first | rfl | omega
      have v56 : X (56 + d) = G (56 + d) := by
        rw [hu]
        repeat' split
        all_goals first | rfl | omega
      have v64 : X (64 + d) = G (64 + d) := by
        rw [hu]
        repeat' split
        all_goals first | rfl | omega
      have v72 : X (72 + d) = G (72 + d) := by
        rw [hu]
        repeat' split
        all_goals first | rfl | omega
      have v80 : X (80 + d) = G (80 + d) := by
        rw [hu]
        repeat' split
        all_goals first | rfl | omega
      have v88 : X (88 + d) = G (88 + d) := by
        rw [hu]
        repeat' split
        all_goals first | rfl | omega
      have v96 : X (96 + d) = G (96 + d) := by
        rw [hu]
        repeat' split
        all_goals first | rfl | omega
      have v104 : X (104 + d) = G (104 + d) := by
        rw [hu]
        repeat' split
        all_goals first | rfl | omega
      unfold gWd
      omega
  · intro t ht
    have hkk := g_t t ht
    rw [hu]
    repeat' split
    all_goals omega
  · intro k hk
    have hkk := g_y k hk
    constructor
    · rw [hu]
      repeat' split
      all_goals omega
    · rw [hu]
      repeat' split
      all_goals omega
  · rw [u3, g_h]
    refine sm_congr (fun d hd => ?_)
    rw [hu]
    repeat' split
    all_goals first | rfl | omega

set_option maxHeartbeats 4000000 in
theorem gWf_gRight {b : Nat} {G : Nat → Nat} {i : Nat} (h0 : i < G 0) (ho : ¬ G (80 + i) = 1) (hl : ¬ G (72 + i) = 1) (h : gWf b G) (h25 : 25 ≤ b) (hb : b + 1 < 2 ^ 20) : gWf (b + 1) (gRight (gHeard G i) i) := by
  obtain ⟨g_b, g_k, g_0, g_1, g_2, g_e, g_d, g_t, g_y, g_s, g_h⟩ := id h
  have hu : ∀ j, (gRight (gHeard G i) i) j = if j = 64 + i then 0 else if j = 80 + i then 1 else if j = 4 then G 4 + 1 else if j = 104 + i then G (104 + i) + 1 else if j = 3 then G 3 + 1 else G j := by
    intro j
    simp only [gRight, gHeard, va_up]
    repeat' split
    all_goals first | rfl | omega
  generalize (gRight (gHeard G i) i) = X at hu ⊢
  have k0 := g_k 0 (by omega)
  have k1 := g_k 1 (by omega)
  have k2 := g_k 2 (by omega)
  have k3 := g_k 3 (by omega)
  have k4 := g_k 4 (by omega)
  have k5 := g_k 5 (by omega)
  have k6 := g_k 6 (by omega)
  have k7 := g_k 7 (by omega)
  have u0 : X 0 = G 0 := by
    rw [hu]
    repeat' split
    all_goals first | rfl | omega
  have u1 : X 1 = G 1 := by
    rw [hu]
    repeat' split
    all_goals first | rfl | omega
  have u2 : X 2 = G 2 := by
    rw [hu]
    repeat' split
    all_goals first | rfl | omega
  have u3 : X 3 = G 3 + 1 := by
    rw [hu]
    repeat' split
    all_goals first | rfl | omega
  have u4 : X 4 = G 4 + 1 := by
    rw [hu]
    repeat' split
    all_goals first | rfl | omega
  have u5 : X 5 = G 5 := by
    rw [hu]
    repeat' split
    all_goals first | rfl | omega
  have u6 : X 6 = G 6 := by
    rw [hu]
    repeat' split
    all_goals first | rfl | omega
  have u7 : X 7 = G 7 := by
    rw [hu]
    repeat' split
    all_goals first | rfl | omega
  refine ⟨hb, ?_, by omega, by omega, by omega, ?_, ?_, ?_, ?_, by omega, ?_⟩
  · intro k hk
    have hkk := g_k k hk
    have z64 := g_k (64 + i) (by omega)
    have z80 := g_k (80 + i) (by omega)
    have z104 := g_k (104 + i) (by omega)
    rw [hu]
    repeat' split
    all_goals omega
  · intro k hk
    have hkk := g_e k hk
    rw [hu]
    repeat' split
    all_goals omega
  · intro d hd
    obtain ⟨w_a, w_g, w_n, w_s, w_w, w_l, w_o, w_x, w_y, w_1, w_2, w_3, w_4⟩ := g_d d hd
    by_cases hdi : d = i
    · subst hdi
      have v32 : X (32 + d) = G (32 + d) := by
        rw [hu]
        repeat' split
        all_goals first | rfl | omega
      have v40 : X (40 + d) = G (40 + d) := by
        rw [hu]
        repeat' split
        all_goals first | rfl | omega
      have v48 : X (48 + d) = G (48 + d) := by
        rw [hu]
        repeat' split
        all_goals first | rfl | omega
      have v56 : X (56 + d) = G (56 + d) := by
        rw [hu]
        repeat' split
        all_goals first | rfl | omega
      have v64 : X (64 + d) = 0 := by
        rw [hu]
        repeat' split
        all_goals first | rfl | omega
      have v72 : X (72 + d) = G (72 + d) := by
        rw [hu]
        repeat' split
        all_goals first | rfl | omega
      have v80 : X (80 + d) = 1 := by
        rw [hu]
        repeat' split
        all_goals first | rfl | omega
      have v88 : X (88 + d) = G (88 + d) := by
        rw [hu]
        repeat' split
        all_goals first | rfl | omega
      have v96 : X (96 + d) = G (96 + d) := by
        rw [hu]
        repeat' split
        all_goals first | rfl | omega
      have v104 : X (104 + d) = G (104 + d) + 1 := by
        rw [hu]
        repeat' split
        all_goals first | rfl | omega
      unfold gWd
      omega
    · have v32 : X (32 + d) = G (32 + d) := by
        rw [hu]
        repeat' split
        all_goals first | rfl | omega
      have v40 : X (40 + d) = G (40 + d) := by
        rw [hu]
        repeat' split
        all_goals first | rfl | omega
      have v48 : X (48 + d) = G (48 + d) := by
        rw [hu]
        repeat' split
        all_goals first | rfl | omega
      have v56 : X (56 + d) = G (56 + d) := by
        rw [hu]
        repeat' split
        all_goals first | rfl | omega
      have v64 : X (64 + d) = G (64 + d) := by
        rw [hu]
        repeat' split
        all_goals first | rfl | omega
      have v72 : X (72 + d) = G (72 + d) := by
        rw [hu]
        repeat' split
        all_goals first | rfl | omega
      have v80 : X (80 + d) = G (80 + d) := by
        rw [hu]
        repeat' split
        all_goals first | rfl | omega
      have v88 : X (88 + d) = G (88 + d) := by
        rw [hu]
        repeat' split
        all_goals first | rfl | omega
      have v96 : X (96 + d) = G (96 + d) := by
        rw [hu]
        repeat' split
        all_goals first | rfl | omega
      have v104 : X (104 + d) = G (104 + d) := by
        rw [hu]
        repeat' split
        all_goals first | rfl | omega
      unfold gWd
      omega
  · intro t ht
    have hkk := g_t t ht
    rw [hu]
    repeat' split
    all_goals omega
  · intro k hk
    have hkk := g_y k hk
    constructor
    · rw [hu]
      repeat' split
      all_goals omega
    · rw [hu]
      repeat' split
      all_goals omega
  · rw [u3, g_h]
    refine (sm_inc (i := i) (by omega) (fun d hd => ?_)).symm
    rw [hu]
    repeat' split
    all_goals first | rfl | omega | (subst_vars; first | rfl | omega)

set_option maxHeartbeats 4000000 in
theorem gWf_gWrongN {b : Nat} {G : Nat → Nat} {i : Nat} (h0 : i < G 0) (ho : ¬ G (80 + i) = 1) (hl : ¬ G (72 + i) = 1) (hn : ¬ G (64 + i) + 1 = 3) (h : gWf b G) (h25 : 25 ≤ b) (hb : b + 1 < 2 ^ 20) : gWf (b + 1) (gWrong1 (gHeard G i) i) := by
  obtain ⟨g_b, g_k, g_0, g_1, g_2, g_e, g_d, g_t, g_y, g_s, g_h⟩ := id h
  have hu : ∀ j, (gWrong1 (gHeard G i) i) j = if j = 64 + i then G (64 + i) + 1 else if j = 5 then G 5 + 1 else if j = 104 + i then G (104 + i) + 1 else if j = 3 then G 3 + 1 else G j := by
    intro j
    simp only [gWrong1, gHeard, va_up]
    repeat' split
    all_goals first | rfl | omega
  generalize (gWrong1 (gHeard G i) i) = X at hu ⊢
  have k0 := g_k 0 (by omega)
  have k1 := g_k 1 (by omega)
  have k2 := g_k 2 (by omega)
  have k3 := g_k 3 (by omega)
  have k4 := g_k 4 (by omega)
  have k5 := g_k 5 (by omega)
  have k6 := g_k 6 (by omega)
  have k7 := g_k 7 (by omega)
  have u0 : X 0 = G 0 := by
    rw [hu]
    repeat' split
    all_goals first | rfl | omega
  have u1 : X 1 = G 1 := by
    rw [hu]
    repeat' split
    all_goals first | rfl | omega
  have u2 : X 2 = G 2 := by
    rw [hu]
    repeat' split
    all_goals first | rfl | omega
  have u3 : X 3 = G 3 + 1 := by
    rw [hu]
    repeat' split
    all_goals first | rfl | omega
  have u4 : X 4 = G 4 := by
    rw [hu]
    repeat' split
    all_goals first | rfl | omega
  have u5 : X 5 = G 5 + 1 := by
    rw [hu]
    repeat' split
    all_goals first | rfl | omega
  have u6 : X 6 = G 6 := by
    rw [hu]
    repeat' split
    all_goals first | rfl | omega
  have u7 : X 7 = G 7 := by
    rw [hu]
    repeat' split
    all_goals first | rfl | omega
  refine ⟨hb, ?_, by omega, by omega, by omega, ?_, ?_, ?_, ?_, by omega, ?_⟩
  · intro k hk
    have hkk := g_k k hk
    have z64 := g_k (64 + i) (by omega)
    have z104 := g_k (104 + i) (by omega)
    rw [hu]
    repeat' split
    all_goals omega
  · intro k hk
    have hkk := g_e k hk
    rw [hu]
    repeat' split
    all_goals omega
  · intro d hd
    obtain ⟨w_a, w_g, w_n, w_s, w_w, w_l, w_o, w_x, w_y, w_1, w_2, w_3, w_4⟩ := g_d d hd
    by_cases hdi : d = i
    · subst hdi
      have v32 : X (32 + d) = G (32 + d) := by
        rw [hu]
        repeat' split
        all_goals first | rfl | omega
      have v40 : X (40 + d) = G (40 + d) := by
        rw [hu]
        repeat' split
        all_goals first | rfl | omega
      have v48 : X (48 + d) = G (48 + d) := by
        rw [hu]
        repeat' split
        all_goals first | rfl | omega
      have v56 : X (56 + d) = G (56 + d) := by
        rw [hu]
        repeat' split
        all_goals first | rfl | omega
      have v64 : X (64 + d) = G (64 + d) + 1 := by
        rw [hu]
        repeat' split
        all_goals first | rfl | omega
      have v72 : X (72 + d) = G (72 + d) := by
        rw [hu]
        repeat' split
        all_goals first | rfl | omega
      have v80 : X (80 + d) = G (80 + d) := by
        rw [hu]
        repeat' split
        all_goals first | rfl | omega
      have v88 : X (88 + d) = G (88 + d) := by
        rw [hu]
        repeat' split
        all_goals first | rfl | omega
      have v96 : X (96 + d) = G (96 + d) := by
        rw [hu]
        repeat' split
        all_goals first | rfl | omega
      have v104 : X (104 + d) = G (104 + d) + 1 := by
        rw [hu]
        repeat' split
        all_goals first | rfl | omega
      unfold gWd
      omega
    · have v32 : X (32 + d) = G (32 + d) := by
        rw [hu]
        repeat' split
        all_goals first | rfl | omega
      have v40 : X (40 + d) = G (40 + d) := by
        rw [hu]
        repeat' split
        all_goals first | rfl | omega
      have v48 : X (48 + d) = G (48 + d) := by
        rw [hu]
        repeat' split
        all_goals first | rfl | omega
      have v56 : X (56 + d) = G (56 + d) := by
        rw [hu]
        repeat' split
        all_goals first | rfl | omega
      have v64 : X (64 + d) = G (64 + d) := by
        rw [hu]
        repeat' split
        all_goals first | rfl | omega
      have v72 : X (72 + d) = G (72 + d) := by
        rw [hu]
        repeat' split
        all_goals first | rfl | omega
      have v80 : X (80 + d) = G (80 + d) := by
        rw [hu]
        repeat' split
        all_goals first | rfl | omega
      have v88 : X (88 + d) = G (88 + d) := by
        rw [hu]
        repeat' split
        all_goals first | rfl | omega
      have v96 : X (96 + d) = G (96 + d) := by
        rw [hu]
        repeat' split
        all_goals first | rfl | omega
      have v104 : X (104 + d) = G (104 + d) := by
        rw [hu]
        repeat' split
        all_goals first | rfl | omega
      unfold gWd
      omega
  · intro t ht
    have hkk := g_t t ht
    rw [hu]
    repeat' split
    all_goals omega
  · intro k hk
    have hkk := g_y k hk
    constructor
    · rw [hu]
      repeat' split
      all_goals omega
    · rw [hu]
      repeat' split
      all_goals omega
  · rw [u3, g_h]
    refine (sm_inc (i := i) (by omega) (fun d hd => ?_)).symm
    rw [hu]
    repeat' split
    all_goals first | rfl | omega | (subst_vars; first | rfl | omega)

set_option maxHeartbeats 4000000 in
theorem gWf_gWrongF {b : Nat} {G : Nat → Nat} {i : Nat} (h0 : i < G 0) (ho : ¬ G (80 + i) = 1) (hl : ¬ G (72 + i) = 1) (hn : G (64 + i) + 1 = 3) (h : gWf b G) (h25 : 25 ≤ b) (hb : b + 1 < 2 ^ 20) : gWf (b + 1) (gFell (gWrong1 (gHeard G i) i) i) := by
  obtain ⟨g_b, g_k, g_0, g_1, g_2, g_e, g_d, g_t, g_y, g_s, g_h⟩ := id h
  have hu : ∀ j, (gFell (gWrong1 (gHeard G i) i) i) j = if j = 6 then G 6 + 1 else if j = 72 + i then 1 else if j = 64 + i then G (64 + i) + 1 else if j = 5 then G 5 + 1 else if j = 104 + i then G (104 + i) + 1 else if j = 3 then G 3 + 1 else G j := by
    intro j
    simp only [gFell, gWrong1, gHeard, va_up]
    repeat' split
    all_goals first | rfl | omega
  generalize (gFell (gWrong1 (gHeard G i) i) i) = X at hu ⊢
  have k0 := g_k 0 (by omega)
  have k1 := g_k 1 (by omega)
  have k2 := g_k 2 (by omega)
  have k3 := g_k 3 (by omega)
  have k4 := g_k 4 (by omega)
  have k5 := g_k 5 (by omega)
  have k6 := g_k 6 (by omega)
  have k7 := g_k 7 (by omega)
  have u0 : X 0 = G 0 := by
    rw [hu]
    repeat' split
    all_goals first | rfl | omega
  have u1 : X 1 = G 1 := by
    rw [hu]
    repeat' split
    all_goals first | rfl | omega
  have u2 : X 2 = G 2 := by
    rw [hu]
    repeat' split
    all_goals first | rfl | omega
  have u3 : X 3 = G 3 + 1 := by
    rw [hu]
    repeat' split
    all_goals first | rfl | omega
  have u4 : X 4 = G 4 := by
    rw [hu]
    repeat' split
    all_goals first | rfl | omega
  have u5 : X 5 = G 5 + 1 := by
    rw [hu]
    repeat' split
    all_goals first | rfl | omega
  have u6 : X 6 = G 6 + 1 := by
    rw [hu]
    repeat' split
    all_goals first | rfl | omega
  have u7 : X 7 = G 7 := by
    rw [hu]
    repeat' split
    all_goals first | rfl | omega
  refine ⟨hb, ?_, by omega, by omega, by omega, ?_, ?_, ?_, ?_, by omega, ?_⟩
  · intro k hk
    have hkk := g_k k hk
    have z72 := g_k (72 + i) (by omega)
    have z64 := g_k (64 + i) (by omega)
    have z104 := g_k (104 + i) (by omega)
    rw [hu]
    repeat' split
    all_goals omega
  · intro k hk
    have hkk := g_e k hk
    rw [hu]
    repeat' split
    all_goals omega
  · intro d hd
    obtain ⟨w_a, w_g, w_n, w_s, w_w, w_l, w_o, w_x, w_y, w_1, w_2, w_3, w_4⟩ := g_d d hd
    by_cases hdi : d = i
    · subst hdi
      have v32 : X (32 + d) = G (32 + d) := by
        rw [hu]
        repeat' split
        all_goals first | rfl | omega
      have v40 : X (40 + d) = G (40 + d) := by
        rw [hu]
        repeat' split
        all_goals first | rfl | omega
      have v48 : X (48 + d) = G (48 + d) := by
        rw [hu]
        repeat' split
        all_goals first | rfl | omega
      have v56 : X (56 + d) = G (56 + d) := by
        rw [hu]
        repeat' split
        all_goals first | rfl | omega
      have v64 : X (64 + d) = G (64 + d) + 1 := by
        rw [hu]
        repeat' split
        all_goals first | rfl | omega
      have v72 : X (72 + d) = 1 := by
        rw [hu]
        repeat' split
        all_goals first | rfl | omega
      have v80 : X (80 + d) = G (80 + d) := by
        rw [hu]
        repeat' split
        all_goals first | rfl | omega
      have v88 : X (88 + d) = G (88 + d) := by
        rw [hu]
        repeat' split
        all_goals first | rfl | omega
      have v96 : X (96 + d) = G (96 + d) := by
        rw [hu]
        repeat' split
        all_goals first | rfl | omega
      have v104 : X (104 + d) = G (104 + d) + 1 := by
        rw [hu]
        repeat' split
        all_goals first | rfl | omega
      unfold gWd
      omega
    · have v32 : X (32 + d) = G (32 + d) := by
        rw [hu]
        repeat' split
        all_goals first | rfl | omega
      have v40 : X (40 + d) = G (40 + d) := by
        rw [hu]
        repeat' split
        all_goals first | rfl | omega
      have v48 : X (48 + d) = G (48 + d) := by
        rw [hu]
        repeat' split
        all_goals first | rfl | omega
      have v56 : X (56 + d) = G (56 + d) := by
        rw [hu]
        repeat' split
        all_goals first | rfl | omega
      have v64 : X (64 + d) = G (64 + d) := by
        rw [hu]
        repeat' split
        all_goals first | rfl | omega
      have v72 : X (72 + d) = G (72 + d) := by
        rw [hu]
        repeat' split
        all_goals first | rfl | omega
      have v80 : X (80 + d) = G (80 + d) := by
        rw [hu]
        repeat' split
        all_goals first | rfl | omega
      have v88 : X (88 + d) = G (88 + d) := by
        rw [hu]
        repeat' split
        all_goals first | rfl | omega
      have v96 : X (96 + d) = G (96 + d) := by
        rw [hu]
        repeat' split
        all_goals first | rfl | omega
      have v104 : X (104 + d) = G (104 + d) := by
        rw [hu]
        repeat' split
        all_goals first | rfl | omega
      unfold gWd
      omega
  · intro t ht
    have hkk := g_t t ht
    rw [hu]
    repeat' split
    all_goals omega
  · intro k hk
    have hkk := g_y k hk
    constructor
    · rw [hu]
      repeat' split
      all_goals omega
    · rw [hu]
      repeat' split
      all_goals omega
  · rw [u3, g_h]
    refine (sm_inc (i := i) (by omega) (fun d hd => ?_)).symm
    rw [hu]
    repeat' split
    all_goals first | rfl | omega | (subst_vars; first | rfl | omega)

theorem gWf_gWrong {b : Nat} {G : Nat → Nat} {i : Nat} (h0 : i < G 0) (ho : ¬ G (80 + i) = 1) (hl : ¬ G (72 + i) = 1) (h : gWf b G) (h25 : 25 ≤ b) (hb : b + 1 < 2 ^ 20) : gWf (b + 1) (gWrong (gHeard G i) i) := by
  have g0 := h.2.2.1
  have e : gWrong1 (gHeard G i) i (64 + i) = G (64 + i) + 1 := by
    unfold gWrong1
    rw [va_up_self, va_up_ne _ _ (by omega)]
    unfold gHeard
    rw [va_up_ne _ _ (by omega), va_up_ne _ _ (by omega)]
  unfold gWrong
  rw [e]
  split
  · rename_i q; exact gWf_gWrongF h0 ho hl q h h25 hb
  · rename_i q; exact gWf_gWrongN h0 ho hl q h h25 hb
theorem iR_tN {x : Int32} {n : Nat} (h : iR x n) : tN x < n ∧ x = nI (tN x) := by
  unfold iR at h
  have h1 : (tN x : Int) = x.toInt := by
    show (x.toInt.toNat : Int) = x.toInt
    omega
  refine ⟨by omega, ?_⟩
  rw [← Int32.toInt_inj, nI_toInt (by have := Int32.toInt_lt x; omega), h1]

theorem vWf_vDoor {b : Nat} {G : Nat → Nat} {a g : Int32} {z : Nat} {x y : Int32} (hz : z ≤ 1) (h : gWf b G) (h25 : 25 ≤ b) (hb : b + 1 < 2 ^ 20) : gWf (b + 1) (vDoor G a g z x y).2.2.2.2 := by
  obtain ⟨g_b, g_k, g_0, g_1, g_2, g_e, g_d, g_t, g_y, g_s, g_h⟩ := id h
  have hm := gWf_mono h (Nat.le_succ b) hb
  unfold vDoor
  by_cases c0 : ¬ iR a 3 ∨ ¬ iR g 3 ∨ x = y
  · rw [if_pos c0]; exact hm
  rw [if_neg c0]
  by_cases c1 : ¬ iR x 6 ∨ ¬ iR y 6
  · rw [if_pos c1]; exact hm
  rw [if_neg c1]
  by_cases c2 : G 0 = 8
  · rw [if_pos c2]; exact hm
  rw [if_neg c2]
  have n1 : iR a 3 := Decidable.not_not.mp (fun q => c0 (Or.inl q))
  have n2 : iR g 3 := Decidable.not_not.mp (fun q => c0 (Or.inr (Or.inl q)))
  have n3 : iR x 6 := Decidable.not_not.mp (fun q => c1 (Or.inl q))
  have n4 : iR y 6 := Decidable.not_not.mp (fun q => c1 (Or.inr q))
  exact gWf_gDoor (by omega) (iR_tN n1).1 (iR_tN n2).1 hz (iR_tN n3).1 (iR_tN n4).1 h h25 hb

theorem vWf_vSill {b : Nat} {G : Nat → Nat} {c : Int32} (h : gWf b G) (h25 : 25 ≤ b) (hb : b + 1 < 2 ^ 20) : gWf (b + 1) (vSill G c).2.2.2.2 := by
  obtain ⟨g_b, g_k, g_0, g_1, g_2, g_e, g_d, g_t, g_y, g_s, g_h⟩ := id h
  have hm := gWf_mono h (Nat.le_succ b) hb
  unfold vSill
  by_cases c0 : ¬ iR c 4
  · rw [if_pos c0]; exact hm
  rw [if_neg c0]
  by_cases c1 : G 1 = 6
  · rw [if_pos c1]; exact hm
  rw [if_neg c1]
  exact gWf_gSill (by omega) (iR_tN (Decidable.not_not.mp c0)).1 h h25 hb

theorem vWf_vGovern {b : Nat} {G : Nat → Nat} {t c : Int32} (h : gWf b G) (h25 : 25 ≤ b) (hb : b + 1 < 2 ^ 20) : gWf (b + 1) (vGovern G t c).2.2.2.2 := by
  obtain ⟨g_b, g_k, g_0, g_1, g_2, g_e, g_d, g_t, g_y, g_s, g_h⟩ := id h
  have hm := gWf_mono h (Nat.le_succ b) hb
  unfold vGovern
  by_cases c0 : ¬ iR t (G 1)
  · rw [if_pos c0]; exact hm
  rw [if_neg c0]
  by_cases c1 : ¬ iR c 4
  · rw [if_pos c1]; exact hm
  rw [if_neg c1]
  by_cases c2 : nI (G (112 + tN t)) = c
  · rw [if_pos c2]; exact hm
  rw [if_neg c2]
  exact gWf_gGov (iR_tN (Decidable.not_not.mp c0)).1 (iR_tN (Decidable.not_not.mp c1)).1 h h25 hb

theorem vWf_vSet {b : Nat} {G : Nat → Nat} {d t : Int32} (h : gWf b G) (h25 : 25 ≤ b) (hb : b + 1 < 2 ^ 20) : gWf (b + 1) (vSet G d t).2.2.2.2 := by
  obtain ⟨g_b, g_k, g_0, g_1, g_2, g_e, g_d, g_t, g_y, g_s, g_h⟩ := id h
  have hm := gWf_mono h (Nat.le_succ b) hb
  unfold vSet
  by_cases c0 : ¬ iR d (G 0) ∨ (¬ t = -1 ∧ ¬ iR t (G 1))
  · rw [if_pos c0]; exact hm
  rw [if_neg c0]
  by_cases c1 : nI (G (56 + tN d)) = t + nI 1
  · rw [if_pos c1]; exact hm
  rw [if_neg c1]
  have n1 : iR d (G 0) := Decidable.not_not.mp (fun q => c0 (Or.inl q))
  refine gWf_gSet (iR_tN n1).1 ?_ h h25 hb
  by_cases q : t = -1
  · rw [q, show tN (-1 + nI 1) = 0 by decide]; omega
  · have n2 : iR t (G 1) := Decidable.not_not.mp (fun q2 => c0 (Or.inr ⟨q, q2⟩))
    obtain ⟨q1, q2⟩ := iR_tN n2
    rw [q2, nI_add, tN_nI (by omega)]
    omega

theorem vWf_vTell {b : Nat} {G : Nat → Nat} {a c : Int32} {z : Nat} {x : Int32} (hz : z ≤ 1) (h : gWf b G) (h25 : 25 ≤ b) (hb : b + 1 < 2 ^ 20) : gWf (b + 1) (vTell G a c z x).2.2.2.2 := by
  obtain ⟨g_b, g_k, g_0, g_1, g_2, g_e, g_d, g_t, g_y, g_s, g_h⟩ := id h
  have hm := gWf_mono h (Nat.le_succ b) hb
  unfold vTell
  by_cases c0 : ¬ iR a 3 ∨ ¬ iR c 4 ∨ ¬ iR x 26
  · rw [if_pos c0]; exact hm
  rw [if_neg c0]
  by_cases c1 : nI (G (gEndAt (tN a) (tN c) z)) = x
  · rw [if_pos c1]; exact hm
  rw [if_neg c1]
  have n1 : iR a 3 := Decidable.not_not.mp (fun q => c0 (Or.inl q))
  have n2 : iR c 4 := Decidable.not_not.mp (fun q => c0 (Or.inr (Or.inl q)))
  have n3 : iR x 26 := Decidable.not_not.mp (fun q => c0 (Or.inr (Or.inr q)))
  have m1 := (iR_tN n1).1
  have m2 := (iR_tN n2).1
  have m3 := (iR_tN n3).1
  show gWf (b + 1) (va_up G (gEndAt (tN a) (tN c) z) (tN x))
  unfold gEndAt
  rw [show 8 + 2 * (4 * tN a + tN c) + z = 8 + (2 * (4 * tN a + tN c) + z) by omega]
  exact gWf_gTell (by omega) (by omega) h h25 hb

theorem vWf_vKey {b : Nat} {G : Nat → Nat} {a g : Int32} (h : gWf b G) (h25 : 25 ≤ b) (hb : b + 1 < 2 ^ 20) : gWf (b + 1) (vKey G a g).2.2.2.2 := by
  obtain ⟨g_b, g_k, g_0, g_1, g_2, g_e, g_d, g_t, g_y, g_s, g_h⟩ := id h
  have hm := gWf_mono h (Nat.le_succ b) hb
  unfold vKey
  by_cases c0 : ¬ iR a 3 ∨ ¬ iR g 3
  · rw [if_pos c0]; exact hm
  rw [if_neg c0]
  by_cases c1 : gSame G (tN a) (tN g) < G 2
  · rw [if_pos c1]; exact hm
  rw [if_neg c1]
  by_cases c2 : G 2 = 5
  · rw [if_pos c2]; exact hm
  rw [if_neg c2]
  have n1 : iR a 3 := Decidable.not_not.mp (fun q => c0 (Or.inl q))
  have n2 : iR g 3 := Decidable.not_not.mp (fun q => c0 (Or.inr q))
  exact gWf_gKey (by omega) (iR_tN n1).1 (iR_tN n2).1 h h25 hb

theorem vWf_vKnock {b : Nat} {G : Nat → Nat} {d g : Int32} {z : Nat} {c : Int32} (h : gWf b G) (h25 : 25 ≤ b) (hb : b + 1 < 2 ^ 20) : gWf (b + 1) (vKnock G d g z c).2.2.2.2 := by
  obtain ⟨g_b, g_k, g_0, g_1, g_2, g_e, g_d, g_t, g_y, g_s, g_h⟩ := id h
  have hm := gWf_mono h (Nat.le_succ b) hb
  unfold vKnock
  by_cases c0 : ¬ iR d (G 0)
  · rw [if_pos c0]; exact hm
  rw [if_neg c0]
  by_cases c1 : ¬ iR g 3 ∨ ¬ iR c 4
  · rw [if_pos c1]; exact hm
  rw [if_neg c1]
  by_cases c2 : G (80 + tN d) = 1
  · rw [if_pos c2]; exact hm
  rw [if_neg c2]
  by_cases c3 : G (72 + tN d) = 1
  · rw [if_pos c3]; exact hm
  rw [if_neg c3]
  have n1 := (iR_tN (Decidable.not_not.mp c0)).1
  show gWf (b + 1) (if _ then _ else _)
  split
  · exact gWf_gRight n1 c2 c3 h h25 hb
  · exact gWf_gWrong n1 c2 c3 h h25 hb

theorem vWf_vShut {b : Nat} {G : Nat → Nat} {d : Int32} (h : gWf b G) (h25 : 25 ≤ b) (hb : b + 1 < 2 ^ 20) : gWf (b + 1) (vShut G d).2.2.2.2 := by
  obtain ⟨g_b, g_k, g_0, g_1, g_2, g_e, g_d, g_t, g_y, g_s, g_h⟩ := id h
  have hm := gWf_mono h (Nat.le_succ b) hb
  unfold vShut
  by_cases c0 : ¬ iR d (G 0)
  · rw [if_pos c0]; exact hm
  rw [if_neg c0]
  by_cases c1 : G (80 + tN d) = 0
  · rw [if_pos c1]; exact hm
  rw [if_neg c1]
  exact gWf_gShut (iR_tN (Decidable.not_not.mp c0)).1 h h25 hb

theorem vWf_vFree {b : Nat} {G : Nat → Nat} {k d : Int32} (h : gWf b G) (h25 : 25 ≤ b) (hb : b + 1 < 2 ^ 20) : gWf (b + 1) (vFree G k d).2.2.2.2 := by
  obtain ⟨g_b, g_k, g_0, g_1, g_2, g_e, g_d, g_t, g_y, g_s, g_h⟩ := id h
  have hm := gWf_mono h (Nat.le_succ b) hb
  unfold vFree
  by_cases c0 : ¬ iR k (G 2) ∨ ¬ iR d (G 0)
  · rw [if_pos c0]; exact hm
  rw [if_neg c0]
  by_cases c1 : G (72 + tN d) = 0
  · rw [if_pos c1]; exact hm
  rw [if_neg c1]
  by_cases c2 : gFit G (tN k) (G (32 + tN d)) (G (40 + tN d)) < 2
  · rw [if_pos c2]; exact hm
  rw [if_neg c2]
  have n1 : iR d (G 0) := Decidable.not_not.mp (fun q => c0 (Or.inr q))
  exact gWf_gFree (iR_tN n1).1 h h25 hb

theorem gWf_new : gWf 25 gNew := by
  have e : ∀ k, k < 128 → gNew k ≤ 20 := by decide +kernel
  refine ⟨by decide, fun k hk => Nat.le_trans (e k hk) (by decide), by decide, by decide, by decide, fun k hk => Nat.le_trans (e (8 + k) (by omega)) (by decide), ?_, ?_, ?_, by decide, by decide⟩
  · unfold gWd; decide +kernel
  · decide +kernel
  · decide +kernel
