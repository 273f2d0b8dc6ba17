/-! the law: its world, its numbers -/
/-- the reference's cells -/
def r7 (cI cC : ClassId) (h aG aB aH aS aI aL aT : Nat) (G B Hi Sv In Le : Nat → Nat) (To : Nat → Int32) (ch hs ty wy ln th sp iw : Nat) (ea ra wd : Int32) : va_W := [(h, .inr (9, [.ref aG, .ref aB, .ref aH, .int (nI ch), .ref aS, .int (nI hs), .ref aI, .int (nI ty), .int ea, .int ra, .int (nI wy), .int wd, .ref aL, .int (nI ln), .int (nI th), .int (nI sp), .int (nI iw), .ref aT])), (aG, .inl (cI, 128, .inl (gN G))), (aB, .inl (cI, 128, .inl (gN B))), (aH, .inl (cI, 1024, .inl (gN Hi))), (aS, .inl (cI, 128, .inl (gN Sv))), (aI, .inl (cI, 60, .inl (gN In))), (aL, .inl (cC, 40, .inl (gN Le))), (aT, .inl (cI, 360, .inl To))]
/-- the numbers that both are told by, behind k calls -/
def lF (k : Nat) (G Sv Hi In Le : Nat → Nat) (hs ch ty wy ln : Nat) : Prop := ∃ b, gWf b G ∧ 25 ≤ b ∧ b + ty ≤ 25 + 4 * k ∧ k ≤ 512 ∧ ch ≤ 8 ∧ (∀ j, j < ch → gWf b (hAt Hi j)) ∧ hs ≤ 1 ∧ (hs = 1 → gWf b Sv) ∧ ty ≤ 60 ∧ (∀ i, i < ty → In i < 128) ∧ ln ≤ 16 ∧ (∀ i, i < ln → Le i < 65536) ∧ wy < 2 ^ 31
theorem gWf_ext {b : Nat} {G F : Nat → Nat} (h : gWf b G) (e : ∀ k, k < 128 → F k = G k) : gWf b F := by
  obtain ⟨h0, h1, h2, h3, h4, h5, h6, h7, h8, h9, h10⟩ := h
  refine ⟨h0, fun k hk => by rw [e k hk]; exact h1 k hk, by rw [e 0 (by decide)]; exact h2, by rw [e 1 (by decide)]; exact h3, by rw [e 2 (by decide)]; exact h4, fun k hk => by rw [e (8 + k) (by omega)]; exact h5 k hk, fun d hd => ?_, fun t ht => by rw [e (112 + t) (by omega)]; exact h7 t ht, fun k hk => by rw [e (118 + k) (by omega), e (123 + k) (by omega)]; exact h8 k hk, by rw [e 3 (by decide), e 4 (by decide), e 5 (by decide)]; exact h9, ?_⟩
  · have := h6 d hd
    unfold gWd at this ⊢
    rw [e (32 + d) (by omega), e (40 + d) (by omega), e (48 + d) (by omega), e (56 + d) (by omega), e (64 + d) (by omega), e (72 + d) (by omega), e (80 + d) (by omega), e (88 + d) (by omega), e (96 + d) (by omega), e (104 + d) (by omega), e 0 (by decide), e 1 (by decide)]
    exact this
  · rw [e 3 (by decide), h10]
    exact sm_congr (fun k hk => (e (104 + k) (by omega)).symm)
section LF
variable {k : Nat} {G Sv Hi In Le : Nat → Nat} {hs ch ty wy ln : Nat}
theorem lF.next (hF : lF k G Sv Hi In Le hs ch ty wy ln) (hk : k < 512) : lF (k + 1) G Sv Hi In Le hs ch ty wy ln := by
  obtain ⟨b, h1, h2, h3, h4, h5⟩ := hF
  exact ⟨b, h1, h2, by omega, by omega, h5⟩
theorem hist_push {b : Nat} (hG : gWf b G) (hch : ch ≤ 8) (hHi : ∀ j, j < ch → gWf b (hAt Hi j)) : ∀ j, j < (if ch = 8 then 8 else ch + 1) → gWf b (hAt (hPush Hi G ch) j) := by
  intro j hj
  by_cases h8 : ch = 8
  · subst h8
    rw [if_pos rfl] at hj
    by_cases e : j = 7
    · subst e
      exact gWf_ext hG (fun k hk => hPush_new (n := 8) hk)
    · exact gWf_ext (hHi (j + 1) (by omega)) (fun k hk => hPush_old8 (by omega) hk)
  · rw [if_neg h8] at hj
    by_cases e : j = ch
    · have h := fun k (hk : k < 128) => hPush_new (Hi := Hi) (G := G) (n := ch) hk
      rw [if_neg h8] at h
      rw [e]
      exact gWf_ext hG h
    · exact gWf_ext (hHi j (by omega)) (fun k hk => hPush_old h8 (by omega) hk)
/-- behind a change -/
theorem lF.change (hF : lF k G Sv Hi In Le hs ch ty wy ln) (hk : k < 512) (v : V) (hv : ∀ b, gWf b G → 25 ≤ b → b + 1 < 2 ^ 20 → gWf (b + 1) v.2.2.2.2) (hw : v.2.1 ≤ 100) : lF (k + 1) v.2.2.2.2 Sv (if v.1 = 0 then hPush Hi G ch else Hi) In Le hs (if v.1 = 0 then (if ch = 8 then 8 else ch + 1) else ch) ty (vWy v wy) ln := by
  obtain ⟨b, h1, h2, h3, h4, h5, h6, h7, h8, h9, h10, h11, h12, h13⟩ := hF
  have hb : b + 1 < 2 ^ 20 := by omega
  refine ⟨b + 1, hv b h1 h2 hb, by omega, by omega, by omega, ?_, ?_, h7, fun q => gWf_mono (h8 q) (by omega) hb, h9, h10, h11, h12, ?_⟩
  · split
    · split <;> omega
    · exact h5
  · intro j hj
    refine gWf_mono (b := b) ?_ (by omega) hb
    by_cases q : v.1 = 0
    · rw [if_pos q] at hj ⊢
      exact hist_push h1 h5 h6 j hj
    · rw [if_neg q] at hj ⊢
      exact h6 j hj
  · unfold vWy
    split
    · exact h13
    · omega
end LF
/-- the reference's own cells, the arrays aside -/
def l7 (s : State) (AD : Nat → Nat) (o oD : Nat) : Nat → Prop := fun q => s.heap.size ≤ q ∧ ¬ cRg AD 0 165 q ∧ q ≠ o ∧ q ≠ oD
abbrev lAN (s : State) : Nat → Prop := fun q => s.heap.size ≤ q
/-- what stands through the whole law -/
def lC (p : Program) (l : Launch) (s : State) (m : MethodId) (args : Array Value) (c : Code) (D : va_G) (cI cC cD cR cL cB : ClassId) (sa : sA) (AD : Nat → Nat) (h aG aB aH aS aI aL aT o oD b9 L : Nat) (xs : Nat → Int32) : Prop :=
  p.tables.exec = Jvm.exec ∧ c.code = code ∧ c.maxLocals = 9 ∧ s.vm.findClass RL = some m.cls ∧ (∀ w ∈ lw_tbl, w.before args s = true) ∧ l.stackTraces = false ∧ va_X b9 L xs s s.heap ∧ b9 < s.heap.size ∧ L ≤ 3072 ∧
  kT D [(cI, .int), (cC, .char), (cD, .object "DoorDialect$Door"), (cR, .object "DoorDialect$House")] nN sa (lAN s) s s.heap ∧ lX D cL cB s ∧ cInj AD ∧ (∀ i, i < 165 → s.heap.size ≤ AD i) ∧ (s.heap.size ≤ o ∧ ¬ cRg AD 0 165 o) ∧ (s.heap.size ≤ oD ∧ ¬ cRg AD 0 165 oD) ∧ o ≠ oD ∧ (∀ (G B Hi Sv In Le : Nat → Nat) (To : Nat → Int32) (fs : List Value), va_D (l7 s AD o oD) [(h, .inr (9, fs)), (aG, .inl (cI, 128, .inl (gN G))), (aB, .inl (cI, 128, .inl (gN B))), (aH, .inl (cI, 1024, .inl (gN Hi))), (aS, .inl (cI, 128, .inl (gN Sv))), (aI, .inl (cI, 60, .inl (gN In))), (aL, .inl (cC, 40, .inl (gN Le))), (aT, .inl (cI, 360, .inl To))])
/-- the law's world behind k calls -/
def lI (D : va_G) (cI cC cD cR cL cB : ClassId) (AD : Nat → Nat) (h aG aB aH aS aI aL aT o oD : Nat) (k : Nat) (H : Heap) : Prop := ∃ (G B Hi Sv In Le : Nat → Nat) (To : Nat → Int32) (ch hs ty wy ln th sp iw : Nat) (ea ra wd : Int32),
  va_P D vwCl (r7 cI cC h aG aB aH aS aI aL aT G B Hi Sv In Le To ch hs ty wy ln th sp iw ea ra wd) H ∧ cW D cI cC cD cR AD G Sv Hi In Le hs ch ty wy ln ea ra wd H ∧ lF k G Sv Hi In Le hs ch ty wy ln ∧ outL D cL o (fun _ => True) H ∧ outB D cB oD (fun _ => True) H
section LR
variable {p : Program} {l : Launch} {e : Env} {R : Room} {s : State} {m : MethodId} {args : Array Value} {below : List Frame} {meth : Method} {c : Code} {H : Heap} {locs : List Loc} {cells slots : Nat} {Q : State → Prop}
variable {cc : ByteArray} {pc mc1 ms1 : Nat} {ls : Array Slot} {rest st0 : List Value} {A A1 : Nat → Prop} {D : va_G} {tys : List (ClassId × FieldType)} {cL cB : ClassId} {v : Int32} {P1 : Heap → Prop} {H0 H1 : Heap} {o oD : Nat} {w1 : va_W} {AD : Nat → Nat}
theorem nv_kN {a : Array Value} (hr : vx_Run p l e R s m args below meth c H locs cells slots mc1 ms1 (F0 m pc ls st0) rest (gQ v P1 A1 a) noX A1) (hS : va_S A H0 H locs) (hA : ∀ q, A1 q → A q)
    (k : ∀ (H1 : Heap) (locs1 : List Loc), P1 H1 → cFr A1 H H1 → va_S A H0 H1 locs1 → W p l e R s m args below meth c H1 locs1 (cells + mc1) (slots + ms1) Q (F0 m (pc + 3) ls (.int v :: rest))) : W p l e R s m args below meth c H locs cells slots Q (F0 m pc ls st0) := by
  refine vx_calli hr hS (fun q _ h => hA q h) (fun q h => hA q h) (fun q _ h => h.elim) (fun E ce q9 u t H1 locs1 ht _ hf _ _ _ _ _ _ _ => hf.elim) (fun r u t H1 locs1 ht _ hp hB _ hk hS1 => ?_)
  rw [hp]
  exact k H1 locs1 (by rw [← ht]; exact hB) hk hS1
theorem nv_kM2 {a : Array Value} (hr : va_Run p l e R s m args below meth c H locs cells slots mc1 ms1 (F0 m pc ls st0) rest (mQ D v w1 A1 a) A1) (hS : va_S A H0 H locs) (hA : ∀ q, A1 q → A q)
    (k : ∀ (H1 : Heap) (locs1 : List Loc), va_P D vwCl w1 H1 → cFr A1 H H1 → va_S A H0 H1 locs1 → W p l e R s m args below meth c H1 locs1 (cells + mc1) (slots + ms1) Q (F0 m (pc + 3) ls (.int v :: rest))) : W p l e R s m args below meth c H locs cells slots Q (F0 m pc ls st0) :=
  va_calli hr hS (fun q _ h => hA q h) (fun q h => hA q h) (fun r _ t H1 locs1 ht _ hv hB _ hk hS1 => by rw [hv]; exact k H1 locs1 (by rw [← ht]; exact hB) hk hS1)
theorem nv_kM2d {a : Array Value} {v : UInt64} (hr : va_Run p l e R s m args below meth c H locs cells slots mc1 ms1 (F0 m pc ls st0) rest (mQd D v w1 A1 a) A1) (hS : va_S A H0 H locs) (hA : ∀ q, A1 q → A q)
    (k : ∀ (H1 : Heap) (locs1 : List Loc), va_P D vwCl w1 H1 → cFr A1 H H1 → va_S A H0 H1 locs1 → W p l e R s m args below meth c H1 locs1 (cells + mc1) (slots + ms1) Q (F0 m (pc + 3) ls (.double v :: rest))) : W p l e R s m args below meth c H locs cells slots Q (F0 m pc ls st0) :=
  va_calld hr hS (fun q _ h => hA q h) (fun q h => hA q h) (fun r _ t H1 locs1 ht _ hv hB _ hk hS1 => by rw [hv]; exact k H1 locs1 (by rw [← ht]; exact hB) hk hS1)
theorem nv_kM2f {a : Array Value} {v : UInt32} (hr : va_Run p l e R s m args below meth c H locs cells slots mc1 ms1 (F0 m pc ls st0) rest (mQf D v w1 A1 a) A1) (hS : va_S A H0 H locs) (hA : ∀ q, A1 q → A q)
    (k : ∀ (H1 : Heap) (locs1 : List Loc), va_P D vwCl w1 H1 → cFr A1 H H1 → va_S A H0 H1 locs1 → W p l e R s m args below meth c H1 locs1 (cells + mc1) (slots + ms1) Q (F0 m (pc + 3) ls (.float v :: rest))) : W p l e R s m args below meth c H locs cells slots Q (F0 m pc ls st0) :=
  va_callf hr hS (fun q _ h => hA q h) (fun q h => hA q h) (fun r _ t H1 locs1 ht _ hv hB _ hk hS1 => by rw [hv]; exact k H1 locs1 (by rw [← ht]; exact hB) hk hS1)
/-- an int of the script -/
theorem nv_sld {b9 L j : Nat} {xs : Nat → Int32} (hx : p.tables.exec = Jvm.exec) (hb : c.code = cc) (hX : va_X b9 L xs s s.heap) (hbl : b9 < s.heap.size) (hS : va_S (lAN s) s.heap H locs) (hj : j < L) (hL : L ≤ 3072) (hdg : decode cc pc = .ok (.iaload, 1))
    (k : W p l e R s m args below meth c H locs cells slots Q (F0 m (pc + 1) ls (.int (xs j) :: rest))) : W p l e R s m args below meth c H locs cells slots Q (F0 m pc ls (.int (nI j) :: .ref b9 :: rest)) :=
  va_sld hx hb hX hbl (Nat.not_le.mpr hbl) hS (vp_in_nI hj (by omega)) hdg (by rw [nI_clamp (by omega)]; exact k)
theorem nv_laldO {x : Int64} (hx : p.tables.exec = Jvm.exec) (hb : c.code = cc) (hK : va_K D vwCl tys s) (t0 : Nat) (ht : tys[t0]? = some (cL, .long)) (hO : outL D cL o (fun w9 => w9 = x) H) (hdg : decode cc pc = .ok (.laload, 1))
    (k : W p l e R s m args below meth c H locs cells slots Q (F0 m (pc + 1) ls (.long x :: rest))) : W p l e R s m args below meth c H locs cells slots Q (F0 m pc ls (.int (nI 0) :: .ref o :: rest)) := by
  obtain ⟨f, h1, hP⟩ := hO
  subst h1
  exact va_lald hx hb hK hP 0 t0 rfl ht (vp_in_nI (Nat.succ_pos 0) (show (1 : Nat) < 2 ^ 31 by decide)) hdg (by rw [nI_clamp (by decide)]; exact k)
theorem nv_daldO {x : UInt64} (hx : p.tables.exec = Jvm.exec) (hb : c.code = cc) (hK : va_K D vwCl tys s) (t0 : Nat) (ht : tys[t0]? = some (cB, .double)) (hO : outB D cB o (fun w9 => w9 = x) H) (hdg : decode cc pc = .ok (.daload, 1))
    (k : W p l e R s m args below meth c H locs cells slots Q (F0 m (pc + 1) ls (.double x :: rest))) : W p l e R s m args below meth c H locs cells slots Q (F0 m pc ls (.int (nI 0) :: .ref o :: rest)) := by
  obtain ⟨f, h1, hP⟩ := hO
  subst h1
  exact va_dald hx hb hK hP 0 t0 rfl ht (vp_in_nI (Nat.succ_pos 0) (show (1 : Nat) < 2 ^ 31 by decide)) hdg (by rw [nI_clamp (by decide)]; exact k)
theorem lg_same (x : Int64) : lg_cmp x x = 0 := by
  unfold lg_cmp; simp
theorem nv_n0 {t : Nat} (ht : t ≤ 3) (h0 : nI t = 0) : t = 0 := (nI_eq (by omega) (by decide)).mp (h0.trans nI_0.symm)
/-- cells that lie elsewhere -/
theorem nv_keep7 {ws : va_W} (hD : va_D A ws) (hP : va_P D vwCl ws H) (hK : cFr A1 H H1) (hn : ∀ q, A q → ¬ A1 q) : va_P D vwCl ws H1 :=
  hP.kept (fun k q hk => hK q.1 (vx_lt hP hk) (hn _ (hD.2 k q hk)))
theorem nv_iaddl {a n : Nat} : nI a + nI n = nI (a + n) := by
  show Int32.ofNat a + Int32.ofNat n = Int32.ofNat (a + n)
  exact (Int32.ofNat_add a n).symm
/-- a boolean as a long, for a comparison -/
theorem nv_b2lc {P9 : Prop} [Decidable P9] {y : Int64} (hx : p.tables.exec = Jvm.exec) (hb : c.code = cc) (d0 : decode cc pc = .ok (.ifCond .eq 7, 3)) (d1 : decode cc (pc + 3) = .ok (.lconst 1, 1)) (d2 : decode cc (pc + 3 + 1) = .ok (.goto 4, 3)) (d3 : decode cc (pc + 7) = .ok (.lconst 0, 1))
    (k : W p l e R s m args below meth c H locs cells slots Q (F0 m (pc + 8) ls (.long (nI (bI P9)).toInt64 :: .long y :: rest))) : W p l e R s m args below meth c H locs cells slots Q (F0 m pc ls (.int (nI (bI P9)) :: .long y :: rest)) := nv_b2l hx hb d0 d1 d2 d3 k
end LR
