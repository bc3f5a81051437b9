set_option maxHeartbeats 8000000 in
set_option maxRecDepth 100000 in
theorem lc_5 {p : Program} {l : Launch} {e : Env} {s : State} {m : MethodId} {below : List Frame} {meth : Method} {c : Code} {b L : Nat} {xs : Nat → Int32} {D : va_G} {cy : Nat → ClassId} {a1 a2 : Nat → Nat} {Q : State → Prop} (hL : L ≤ 4096) (C0 : lK p s m meth c b L xs D cy a1 a2) {B : Nat} (hB : 1 ≤ B ∧ B + 60 ≤ 1000000) {x3 : Int32} (hx3 : 0 ≤ x3.toInt ∧ x3.toInt + 8 ≤ (L : Int)) {H : Heap} {locs : List Loc} (hst : lS D cy a1 a2 B H) (hS : va_S (fun q : Nat => s.heap.size ≤ q) s.heap H locs) {ls : Array Slot} (hl : lv_has ls 4 [(0, .ref b), (1, .ref (a1 0)), (2, .ref (a2 0)), (3, .int x3)]) (kk : ∀ (H : Heap) (locs : List Loc), lS D cy a1 a2 (B + 60) H → va_S (fun q : Nat => s.heap.size ≤ q) s.heap H locs → W p l e room_1 s m #[Value.ref b] below meth c H locs 107 4467 Q (F0 m 1004 ls [])) : W p l e room_1 s m #[Value.ref b] below meth c H locs 107 4467 Q (F0 m 381 ls []) := by
  obtain ⟨⟨hx, hb, hr, hml, hown, hts, hX, hbl, hlocks, hgv⟩, hK, hN, hJ1, hJ2, hap, hg1, hg2⟩ := C0
  have hap2 : ∀ i j, i < 34 → j < 73 → a2 i ≠ a1 j := fun i j h1 h2 h3 => hap j i h2 h1 h3.symm
  have hts : ∀ w ∈ wsL_law, w.before #[Value.ref b] s = true := fun w h => hts w (wsL_law_in w h)
  have hbA : ¬ (fun q : Nat => s.heap.size ≤ q) b := Nat.not_le.mpr hbl
  obtain ⟨cnt, c1, c2, hO1, ⟨nd, wn, S, By, Ah, hO2⟩, hP1, hP2⟩ := hst
  refine lv_aload_n hx hb dL_law_381 rfl (lv_at hl 1 rfl) ?_
  refine rd_a 1 hx hb hX hbl hbA hS hl hx3 hL rfl (by decide) (by decide) dL_law_382 dL_law_383 dL_law_384 dL_law_385 dL_law_386 (fun y386 e386 => ?_)
  refine rd_a 2 hx hb hX hbl hbA hS hl hx3 hL rfl (by decide) (by decide) dL_law_387 dL_law_388 dL_law_389 dL_law_390 dL_law_391 (fun y391 e391 => ?_)
  refine rd_a 3 hx hb hX hbl hbA hS hl hx3 hL rfl (by decide) (by decide) dL_law_392 dL_law_393 dL_law_394 dL_law_395 dL_law_396 (fun y396 e396 => ?_)
  refine rd_a 4 hx hb hX hbl hbA hS hl hx3 hL rfl (by decide) (by decide) dL_law_397 dL_law_398 dL_law_399 dL_law_400 dL_law_401 (fun y401 e401 => ?_)
  refine rd_a 5 hx hb hX hbl hbA hS hl hx3 hL rfl (by decide) (by decide) dL_law_402 dL_law_403 dL_law_404 dL_law_405 dL_law_406 (fun y406 e406 => ?_)
  refine rd_b 6 hx hb hX hbl hbA hS hl hx3 hL rfl (by decide) (by decide) dL_law_407 dL_law_408 dL_law_409 dL_law_411 dL_law_412 (fun y412 e412 => ?_)
  have K413 : ∀ v421 : Int32, 0 ≤ v421.toInt ∧ v421.toInt ≤ 1 → W p l e room_1 s m #[Value.ref b] below meth c H locs 107 4467 Q (F0 m 421 ls [.int v421, .int y406, .int y401, .int y396, .int y391, .int y386, .ref (a1 0)]) := by
    intro v421 hv421
    obtain ⟨_, _, k421, _, _⟩ := gg_GK hO1
    refine u_ci (z_rV (q0 := 0) (As := [.int y386, .int y391, .int y396, .int y401, .int y406, .int v421]) (rest := []) ⟨hx, hb, hml, hown, hts⟩ (c_X7_ledge l D cy a1 cnt B hJ1 y386 y391 y396 y401 y406 v421 (by omega)) (cwV 6 hts (g_V0 mw_582 mw_583 mw_584 mw_2 mw_585) rfl rfl rfl (by decide +kernel) ⟨Nat.le_of_ble_eq_true rfl, Nat.le_of_ble_eq_true rfl⟩) hK hN hO1 hP1 (by decide) k421 rfl rfl hl.1 rfl (Nat.le_of_ble_eq_true rfl) dL_law_421 ⟨by decide, by decide⟩) hS hg1 hap hP2 (fun r421 c1_421 H locs w421 hP1 hP2 hS => ?_)
    refine lv_pop hx hb dL_law_424 rfl ?_
    refine lv_aload_n hx hb dL_law_425 rfl (lv_at hl 2 rfl) ?_
    refine rd_a 1 hx hb hX hbl hbA hS hl hx3 hL rfl (by decide) (by decide) dL_law_426 dL_law_427 dL_law_428 dL_law_429 dL_law_430 (fun y430 e430 => ?_)
    refine rd_a 2 hx hb hX hbl hbA hS hl hx3 hL rfl (by decide) (by decide) dL_law_431 dL_law_432 dL_law_433 dL_law_434 dL_law_435 (fun y435 e435 => ?_)
    refine rd_a 3 hx hb hX hbl hbA hS hl hx3 hL rfl (by decide) (by decide) dL_law_436 dL_law_437 dL_law_438 dL_law_439 dL_law_440 (fun y440 e440 => ?_)
    refine rd_a 4 hx hb hX hbl hbA hS hl hx3 hL rfl (by decide) (by decide) dL_law_441 dL_law_442 dL_law_443 dL_law_444 dL_law_445 (fun y445 e445 => ?_)
    refine rd_a 5 hx hb hX hbl hbA hS hl hx3 hL rfl (by decide) (by decide) dL_law_446 dL_law_447 dL_law_448 dL_law_449 dL_law_450 (fun y450 e450 => ?_)
    refine rd_b 6 hx hb hX hbl hbA hS hl hx3 hL rfl (by decide) (by decide) dL_law_451 dL_law_452 dL_law_453 dL_law_455 dL_law_456 (fun y456 e456 => ?_)
    have K457 : ∀ v465 : Int32, 0 ≤ v465.toInt ∧ v465.toInt ≤ 1 → W p l e room_1 s m #[Value.ref b] below meth c H locs 107 4467 Q (F0 m 465 ls [.int v465, .int y450, .int y445, .int y440, .int y435, .int y430, .ref (a2 0)]) := by
      intro v465 hv465
      obtain ⟨_, _, _, _, _, _, _, _, _, _, _, _, _, _, _, _, k465, _, _, _, _, _, _, _, _, _, _, _, _, _, _, _, _, _, _, _, _, _, _⟩ := mg_Mo hO2
      refine u_ci (z_rV (q0 := 0) (As := [.int y430, .int y435, .int y440, .int y445, .int y450, .int v465]) (rest := []) ⟨hx, hb, hml, hown, hts⟩ (c_X8_ledge l D cy a2 cnt nd wn S By Ah hJ2 y430 y435 y440 y445 y450 v465 (by omega)) (cwV 6 hts (g_V0 mw_586 mw_587 mw_588 mw_324 mw_589) rfl rfl rfl (by decide +kernel) ⟨Nat.le_of_ble_eq_true rfl, Nat.le_of_ble_eq_true rfl⟩) hK hN hO2 hP2 (by decide) k465 rfl rfl hl.1 rfl (Nat.le_of_ble_eq_true rfl) dL_law_465 ⟨by decide, by decide⟩) hS hg2 hap2 hP1 (fun r465 c2_465 H locs w465 hP2 hP1 hS => ?_)
      have z430 : y430 = y386 := e430.trans e386.symm
      have z435 : y435 = y391 := e435.trans e391.symm
      have z440 : y440 = y396 := e440.trans e396.symm
      have z445 : y445 = y401 := e445.trans e401.symm
      have z450 : y450 = y406 := e450.trans e406.symm
      rw [z430, z435, z440, z445, z450] at w465
      have htie := top_tie w421 w465
      refine lv_pop hx hb dL_law_468 rfl ?_
      refine lv_goto (tgt := 1004) hx hb dL_law_469 (by decide) ?_
      obtain ⟨_, cnt2, hO1, hO2⟩ := htie
      exact kk _ _ ⟨cnt2, _, _, gOK_mono (by omega) hO1, hO2, hP1, hP2⟩ hS
    refine z_if_eq (tgt := 464) hx hb dL_law_457 (by decide) (fun c457 => ?_) (fun c457 => ?_)
    · skip
      refine z_ic hx hb dL_law_464 (by decide) (fun v464 h464 => ?_)
      exact K457 _ (by omega)
    · skip
      refine z_ic hx hb dL_law_460 (by decide) (fun v460 h460 => ?_)
      refine lv_goto (tgt := 465) hx hb dL_law_461 (by decide) ?_
      exact K457 _ (by omega)
  refine z_if_eq (tgt := 420) hx hb dL_law_413 (by decide) (fun c413 => ?_) (fun c413 => ?_)
  · skip
    refine z_ic hx hb dL_law_420 (by decide) (fun v420 h420 => ?_)
    exact K413 _ (by omega)
  · skip
    refine z_ic hx hb dL_law_416 (by decide) (fun v416 h416 => ?_)
    refine lv_goto (tgt := 421) hx hb dL_law_417 (by decide) ?_
    exact K413 _ (by omega)
