set_option maxHeartbeats 4000000 in
set_option maxRecDepth 100000 in
/-- YOUR PART: from the entry, for every script of at most 260 ints, the law comes to its end with true ('hflags': the launch's flags, for a law that throws: no stack traces) -/
theorem whole_start {p : Program} {e : Env} {s : State} {m : MethodId} {below : List Frame} {meth : Method} {c : Code} (l : Launch) (hflags : l.flags = flags0) {b L : Nat} {xs : Nat → Int32} (hL : L ≤ 260) (C0 : lw_At p s m meth c b L xs) : W p l e room_1 s m #[Value.ref b] below meth c s.heap [] 0 0 (lw_Z below #[Value.ref b] s) (entryFrame m ([Value.ref b] : List Value).toArray 13) := by
  obtain ⟨hx, hb, hr, hml, hown, hts, hX, hbl, hlocks, hgv⟩ := id C0
  have hown : s.vm.findClass RL = some m.cls := hown
  have hl9 : l.stackTraces = false := by
    show (!l.flags.contains noTraceFlag) = false
    rw [hflags]
    decide +kernel
  have hfl : ∀ w ∈ lwF, w.before #[Value.ref b] s = true := flat_of_before _ hgv
  obtain ⟨D, cI, cC, cD, cR, cB, sa, hT, hLX⟩ := law_facts hts hfl
  have hC : lwC p l s m c b L xs D cI cC cD cR cB sa := ⟨hx, hb, hml, hown, lw_t2_ok hts, hl9, hX, hbl, hL, hT, hLX⟩
  have hl := lv_entry ([.ref b]) (n := 13) (Nat.le_of_ble_eq_true rfl)
  rw [lg_entry_eq]
  generalize (lg_sl ([.ref b]) ++ List.replicate (13 - (lg_sl ([.ref b])).length) Slot.unset).toArray = ls at hl ⊢
  have hl : lv_has ls 13 [(0, .ref b)] := hl
  have hend : ∀ (H : Heap) (locs : List Loc) (ls : Array Slot), va_S (aN s.heap.size) s.heap H locs → W p l e room_1 s m #[Value.ref b] below meth c H locs (2000 * 11) (20000 * 11) (lw_Z below #[Value.ref b] s) (F0 m 1456 ls [.int (nI 1)]) := by
    intro H locs ls hS
    refine va_forget (fun q hq => hS.2.2 q hq) ?_
    refine W.widen (k := 600258) (n := 7294890) (Nat.le_of_ble_eq_true rfl) (Nat.le_of_ble_eq_true rfl) ?_
    refine W.base ?_
    exact lw_ret (Drawn.sameBut.refl s.drawn lw_cs) hx hb hr hlocks dL_law_1456
  refine law_A hC (fun G Hi ch wy wd w ADx ADy hIx hAx hIy hAy hxy hyx hw h26 hFx hFy H locs ls hP hS hl => ?_) ls hl
  have hch : ch ≤ 8 := by
    obtain ⟨b1, h1, h2, h3, h4, h5, h6⟩ := hFx
    exact h5
  refine law_B hC hIx hAx hIy hAy hxy hyx hw h26 hFx hFy (fun hFx hFy H locs ls hP hS hl => ?_) H locs ls hP hS hl
  refine law_C hC hIx hAx hIy hAy hxy hyx hw h26 hch hFx hFy (fun Hi In ch hFx H locs ls hP hS hl => ?_) H locs ls hP hS hl
  refine law_D hC hIx hAx hw h26 hFx (fun In hFx H locs ls hP hS hl => ?_) H locs ls hP hS hl
  refine law_E hC hIx hAx hFx (fun In hFx H locs ls hP hS hl => ?_) H locs ls hP hS hl
  refine law_F hC hIx hAx hFx (fun H locs ls hP hS hl => ?_) H locs ls hP hS hl
  refine law_G hC hIx hAx (fun g ADz Hz Le cz hg hIz hAz hxz hzx hFz H locs ls hP hS hl => ?_) H locs ls hP hS hl
  refine law_H hC hIx hAx hIz hAz hxz hzx hg hFz (fun Hz In Le cz hFz H locs ls hP hS hl => ?_) H locs ls hP hS hl
  refine law_I hC hIx hAx hIz hAz hxz hzx hg hFz (fun Hz In Le cz hFz H locs ls hP hS hl => ?_) H locs ls hP hS hl
  refine law_J hC hIx hAx hIz hAz hxz hzx hg hFz (fun Hz In Le cz hFz H locs ls hP hS hl => ?_) H locs ls hP hS hl
  exact law_K hC hIx hAx hIz hAz hxz hzx hg hFz (fun H locs ls hS => hend H locs ls hS) H locs ls hP hS hl
