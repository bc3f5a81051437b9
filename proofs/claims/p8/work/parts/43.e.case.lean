set_option maxHeartbeats 8000000 in
set_option maxRecDepth 100000 in
theorem lc_4 {p : Program} {l : Launch} {e : Env} {s : State} {m : MethodId} {below : List Frame} {meth : Method} {c : Code} {b L : Nat} {xs : Nat → Int32} {D : va_G} {cy : Nat → ClassId} {a1 a2 : Nat → Nat} {Q : State → Prop} (hL : L ≤ 4096) (C0 : lK p s m meth c b L xs D cy a1 a2) {B : Nat} (hB : 1 ≤ B ∧ B + 60 ≤ 1000000) {x3 : Int32} (hx3 : 0 ≤ x3.toInt ∧ x3.toInt + 8 ≤ (L : Int)) {H : Heap} {locs : List Loc} (hst : lS D cy a1 a2 B H) (hS : va_S (fun q : Nat => s.heap.size ≤ q) s.heap H locs) {ls : Array Slot} (hl : lv_has ls 4 [(0, .ref b), (1, .ref (a1 0)), (2, .ref (a2 0)), (3, .int x3)]) (kk : ∀ (H : Heap) (locs : List Loc), lS D cy a1 a2 (B + 60) H → va_S (fun q : Nat => s.heap.size ≤ q) s.heap H locs → W p l e room_1 s m #[Value.ref b] below meth c H locs 107 4467 Q (F0 m 1004 ls [])) : W p l e room_1 s m #[Value.ref b] below meth c H locs 107 4467 Q (F0 m 332 ls []) := by
  obtain ⟨⟨hx, hb, hr, hml, hown, hts, hX, hbl, hlocks, hgv⟩, hK, hN, hJ1, hJ2, hap, hg1, hg2⟩ := C0
  have hap2 : ∀ i j, i < 34 → j < 73 → a2 i ≠ a1 j := fun i j h1 h2 h3 => hap j i h2 h1 h3.symm
  have hts : ∀ w ∈ wsL_law, w.before #[Value.ref b] s = true := fun w h => hts w (wsL_law_in w h)
  have hbA : ¬ (fun q : Nat => s.heap.size ≤ q) b := Nat.not_le.mpr hbl
  obtain ⟨cnt, c1, c2, hO1, ⟨nd, wn, S, By, Ah, hO2⟩, hP1, hP2⟩ := hst
  refine lv_aload_n hx hb dL_law_332 rfl (lv_at hl 1 rfl) ?_
  refine rd_a 1 hx hb hX hbl hbA hS hl hx3 hL rfl (by decide) (by decide) dL_law_333 dL_law_334 dL_law_335 dL_law_336 dL_law_337 (fun y337 e337 => ?_)
  refine rd_a 2 hx hb hX hbl hbA hS hl hx3 hL rfl (by decide) (by decide) dL_law_338 dL_law_339 dL_law_340 dL_law_341 dL_law_342 (fun y342 e342 => ?_)
  have K343 : ∀ v351 : Int32, 0 ≤ v351.toInt ∧ v351.toInt ≤ 1 → W p l e room_1 s m #[Value.ref b] below meth c H locs 107 4467 Q (F0 m 351 ls [.int v351, .int y337, .ref (a1 0)]) := by
    intro v351 hv351
    obtain ⟨_, _, k351, _, _⟩ := gg_GK hO1
    refine u_ci (z_rV (q0 := 0) (As := [.int y337, .int v351]) (rest := []) ⟨hx, hb, hml, hown, hts⟩ (c_X7_shut l D cy a1 cnt B hJ1 y337 v351 (by omega)) (cwV 2 hts (g_V0 mw_574 mw_575 mw_576 mw_2 mw_577) rfl rfl rfl (by decide +kernel) ⟨Nat.le_of_ble_eq_true rfl, Nat.le_of_ble_eq_true rfl⟩) hK hN hO1 hP1 (by decide) k351 rfl rfl hl.1 rfl (Nat.le_of_ble_eq_true rfl) dL_law_351 ⟨by decide, by decide⟩) hS hg1 hap hP2 (fun r351 c1_351 H locs w351 hP1 hP2 hS => ?_)
    have hO1 := w351.1
    refine lv_pop hx hb dL_law_354 rfl ?_
    refine lv_aload_n hx hb dL_law_355 rfl (lv_at hl 2 rfl) ?_
    refine rd_a 1 hx hb hX hbl hbA hS hl hx3 hL rfl (by decide) (by decide) dL_law_356 dL_law_357 dL_law_358 dL_law_359 dL_law_360 (fun y360 e360 => ?_)
    refine rd_a 2 hx hb hX hbl hbA hS hl hx3 hL rfl (by decide) (by decide) dL_law_361 dL_law_362 dL_law_363 dL_law_364 dL_law_365 (fun y365 e365 => ?_)
    have K366 : ∀ v374 : Int32, 0 ≤ v374.toInt ∧ v374.toInt ≤ 1 → W p l e room_1 s m #[Value.ref b] below meth c H locs 107 4467 Q (F0 m 374 ls [.int v374, .int y360, .ref (a2 0)]) := by
      intro v374 hv374
      obtain ⟨_, _, _, _, _, _, _, _, _, _, _, _, _, _, _, _, k374, _, _, _, _, _, _, _, _, _, _, _, _, _, _, _, _, _, _, _, _, _, _⟩ := mg_Mo hO2
      refine u_ci (z_rV (q0 := 0) (As := [.int y360, .int v374]) (rest := []) ⟨hx, hb, hml, hown, hts⟩ (c_X8_shut l D cy a2 cnt nd wn S By Ah hJ2 y360 v374 (by omega)) (cwV 2 hts (g_V0 mw_578 mw_579 mw_580 mw_324 mw_581) rfl rfl rfl (by decide +kernel) ⟨Nat.le_of_ble_eq_true rfl, Nat.le_of_ble_eq_true rfl⟩) hK hN hO2 hP2 (by decide) k374 rfl rfl hl.1 rfl (Nat.le_of_ble_eq_true rfl) dL_law_374 ⟨by decide, by decide⟩) hS hg2 hap2 hP1 (fun r374 c2_374 H locs w374 hP2 hP1 hS => ?_)
      have hO2 := w374.1
      refine lv_pop hx hb dL_law_377 rfl ?_
      refine lv_goto (tgt := 1004) hx hb dL_law_378 (by decide) ?_
      exact kk _ _ ⟨cnt, _, _, (gOK_mono (by omega) hO1), ⟨_, _, _, _, _, hO2⟩, hP1, hP2⟩ hS
    refine z_if_eq (tgt := 373) hx hb dL_law_366 (by decide) (fun c366 => ?_) (fun c366 => ?_)
    · skip
      refine z_ic hx hb dL_law_373 (by decide) (fun v373 h373 => ?_)
      exact K366 _ (by omega)
    · skip
      refine z_ic hx hb dL_law_369 (by decide) (fun v369 h369 => ?_)
      refine lv_goto (tgt := 374) hx hb dL_law_370 (by decide) ?_
      exact K366 _ (by omega)
  refine z_if_eq (tgt := 350) hx hb dL_law_343 (by decide) (fun c343 => ?_) (fun c343 => ?_)
  · skip
    refine z_ic hx hb dL_law_350 (by decide) (fun v350 h350 => ?_)
    exact K343 _ (by omega)
  · skip
    refine z_ic hx hb dL_law_346 (by decide) (fun v346 h346 => ?_)
    refine lv_goto (tgt := 351) hx hb dL_law_347 (by decide) ?_
    exact K343 _ (by omega)
