set_option maxHeartbeats 8000000 in
set_option maxRecDepth 100000 in
theorem lc_5 {p : Program} {l : Launch} {e : Env} {s : State} {m : MethodId} {below : List Frame} {meth : Method} {c : Code} {b L : Nat} {xs : Nat → Int32} {D : va_G} {cy : Nat → ClassId} {a1 a2 : Nat → Nat} {Q : State → Prop} (hL : L ≤ 4096) (C0 : lK p s m meth c b L xs D cy a1 a2) {B : Nat} (hB : 1 ≤ B ∧ B + 60 ≤ 1000000) {x3 : Int32} (hx3 : 0 ≤ x3.toInt ∧ x3.toInt + 8 ≤ (L : Int)) {H : Heap} {locs : List Loc} (hst : lS D cy a1 a2 B H) (hS : va_S (fun q : Nat => s.heap.size ≤ q) s.heap H locs) {ls : Array Slot} (hl : lv_has ls 4 [(0, .ref b), (1, .ref (a1 0)), (2, .ref (a2 0)), (3, .int x3)]) (kk : ∀ (H : Heap) (locs : List Loc), lS D cy a1 a2 (B + 60) H → va_S (fun q : Nat => s.heap.size ≤ q) s.heap H locs → W p l e room_1 s m #[Value.ref b] below meth c H locs 107 4467 Q (F0 m 1004 ls [])) : W p l e room_1 s m #[Value.ref b] below meth c H locs 107 4467 Q (F0 m 381 ls []) := by
  obtain ⟨⟨hx, hb, hr, hml, hown, hts, hX, hbl, hlocks, hgv⟩, hK, hN, hJ1, hJ2, hap, hg1, hg2⟩ := C0
  have hap2 : ∀ i j, i < 34 → j < 73 → a2 i ≠ a1 j := fun i j h1 h2 h3 => hap j i h2 h1 h3.symm
  have hts : ∀ w ∈ wsL_law, w.before #[Value.ref b] s = true := fun w h => hts w (wsL_law_in w h)
  have hbA : ¬ (fun q : Nat => s.heap.size ≤ q) b := Nat.not_le.mpr hbl
  obtain ⟨cnt, c1, c2, hO1, ⟨nd, wn, S, By, Ah, hO2⟩, hP1, hP2⟩ := hst
  refine lv_aload_n hx hb dL_law_381 rfl (lv_at hl 1 rfl) ?_
  refine lv_aload_n hx hb dL_law_382 rfl (lv_at hl 0 rfl) ?_
  refine lv_iload_n hx hb dL_law_383 rfl (lv_at hl 3 rfl) ?_
  refine z_ic hx hb dL_law_384 (by decide) (fun v384 h384 => ?_)
  refine z_addE hx hb dL_law_385 (by omega) (fun v385 h385 => ?_)
  refine va_sld hx hb hX hbl hbA hS (z_in (by omega) (by omega)) dL_law_386 ?_
  refine lv_topi (fun y386 e386 => ?_)
  refine lv_aload_n hx hb dL_law_387 rfl (lv_at hl 0 rfl) ?_
  refine lv_iload_n hx hb dL_law_388 rfl (lv_at hl 3 rfl) ?_
  refine z_ic hx hb dL_law_389 (by decide) (fun v389 h389 => ?_)
  refine z_addE hx hb dL_law_390 (by omega) (fun v390 h390 => ?_)
  refine va_sld hx hb hX hbl hbA hS (z_in (by omega) (by omega)) dL_law_391 ?_
  refine lv_topi (fun y391 e391 => ?_)
  refine lv_aload_n hx hb dL_law_392 rfl (lv_at hl 0 rfl) ?_
  refine lv_iload_n hx hb dL_law_393 rfl (lv_at hl 3 rfl) ?_
  refine z_ic hx hb dL_law_394 (by decide) (fun v394 h394 => ?_)
  refine z_addE hx hb dL_law_395 (by omega) (fun v395 h395 => ?_)
  refine va_sld hx hb hX hbl hbA hS (z_in (by omega) (by omega)) dL_law_396 ?_
  refine lv_topi (fun y396 e396 => ?_)
  refine lv_aload_n hx hb dL_law_397 rfl (lv_at hl 0 rfl) ?_
  refine lv_iload_n hx hb dL_law_398 rfl (lv_at hl 3 rfl) ?_
  refine z_ic hx hb dL_law_399 (by decide) (fun v399 h399 => ?_)
  refine z_addE hx hb dL_law_400 (by omega) (fun v400 h400 => ?_)
  refine va_sld hx hb hX hbl hbA hS (z_in (by omega) (by omega)) dL_law_401 ?_
  refine lv_topi (fun y401 e401 => ?_)
  refine lv_aload_n hx hb dL_law_402 rfl (lv_at hl 0 rfl) ?_
  refine lv_iload_n hx hb dL_law_403 rfl (lv_at hl 3 rfl) ?_
  refine z_ic hx hb dL_law_404 (by decide) (fun v404 h404 => ?_)
  refine z_addE hx hb dL_law_405 (by omega) (fun v405 h405 => ?_)
  refine va_sld hx hb hX hbl hbA hS (z_in (by omega) (by omega)) dL_law_406 ?_
  refine lv_topi (fun y406 e406 => ?_)
  refine lv_aload_n hx hb dL_law_407 rfl (lv_at hl 0 rfl) ?_
  refine lv_iload_n hx hb dL_law_408 rfl (lv_at hl 3 rfl) ?_
  refine z_bi hx hb dL_law_409 (by decide) (fun v409 h409 => ?_)
  refine z_addE hx hb dL_law_411 (by omega) (fun v411 h411 => ?_)
  refine va_sld hx hb hX hbl hbA hS (z_in (by omega) (by omega)) dL_law_412 ?_
  refine lv_topi (fun y412 e412 => ?_)
  have K413 : ∀ v421 : Int32, 0 ≤ v421.toInt ∧ v421.toInt ≤ 1 → W p l e room_1 s m #[Value.ref b] below meth c H locs 107 4467 Q (F0 m 421 ls [.int v421, .int y406, .int y401, .int y396, .int y391, .int y386, .ref (a1 0)]) := by
    intro v421 hv421
    obtain ⟨_, _, k421, _, _⟩ := gg_GK hO1
    refine u_ci (z_rV (q0 := 0) (As := [.int y386, .int y391, .int y396, .int y401, .int y406, .int v421]) (rest := []) ⟨hx, hb, hml, hown, hts⟩ (c_X7_ledge l D cy a1 cnt B hJ1 y386 y391 y396 y401 y406 v421 (by omega)) (cwV 6 hts (g_V0 mw_582 mw_583 mw_584 mw_2 mw_585) rfl rfl rfl (by decide +kernel) ⟨Nat.le_of_ble_eq_true rfl, Nat.le_of_ble_eq_true rfl⟩) hK hN hO1 hP1 (by decide) k421 rfl rfl hl.1 rfl (Nat.le_of_ble_eq_true rfl) dL_law_421 ⟨by decide, by decide⟩) hS hg1 hap hP2 (fun r421 c1_421 H locs w421 hP1 hP2 hS => ?_)
    refine lv_pop hx hb dL_law_424 rfl ?_
    refine lv_aload_n hx hb dL_law_425 rfl (lv_at hl 2 rfl) ?_
    refine lv_aload_n hx hb dL_law_426 rfl (lv_at hl 0 rfl) ?_
    refine lv_iload_n hx hb dL_law_427 rfl (lv_at hl 3 rfl) ?_
    refine z_ic hx hb dL_law_428 (by decide) (fun v428 h428 => ?_)
    refine z_addE hx hb dL_law_429 (by omega) (fun v429 h429 => ?_)
    refine va_sld hx hb hX hbl hbA hS (z_in (by omega) (by omega)) dL_law_430 ?_
    refine lv_topi (fun y430 e430 => ?_)
    refine lv_aload_n hx hb dL_law_431 rfl (lv_at hl 0 rfl) ?_
    refine lv_iload_n hx hb dL_law_432 rfl (lv_at hl 3 rfl) ?_
    refine z_ic hx hb dL_law_433 (by decide) (fun v433 h433 => ?_)
    refine z_addE hx hb dL_law_434 (by omega) (fun v434 h434 => ?_)
    refine va_sld hx hb hX hbl hbA hS (z_in (by omega) (by omega)) dL_law_435 ?_
    refine lv_topi (fun y435 e435 => ?_)
    refine lv_aload_n hx hb dL_law_436 rfl (lv_at hl 0 rfl) ?_
    refine lv_iload_n hx hb dL_law_437 rfl (lv_at hl 3 rfl) ?_
    refine z_ic hx hb dL_law_438 (by decide) (fun v438 h438 => ?_)
    refine z_addE hx hb dL_law_439 (by omega) (fun v439 h439 => ?_)
    refine va_sld hx hb hX hbl hbA hS (z_in (by omega) (by omega)) dL_law_440 ?_
    refine lv_topi (fun y440 e440 => ?_)
    refine lv_aload_n hx hb dL_law_441 rfl (lv_at hl 0 rfl) ?_
    refine lv_iload_n hx hb dL_law_442 rfl (lv_at hl 3 rfl) ?_
    refine z_ic hx hb dL_law_443 (by decide) (fun v443 h443 => ?_)
    refine z_addE hx hb dL_law_444 (by omega) (fun v444 h444 => ?_)
    refine va_sld hx hb hX hbl hbA hS (z_in (by omega) (by omega)) dL_law_445 ?_
    refine lv_topi (fun y445 e445 => ?_)
    refine lv_aload_n hx hb dL_law_446 rfl (lv_at hl 0 rfl) ?_
    refine lv_iload_n hx hb dL_law_447 rfl (lv_at hl 3 rfl) ?_
    refine z_ic hx hb dL_law_448 (by decide) (fun v448 h448 => ?_)
    refine z_addE hx hb dL_law_449 (by omega) (fun v449 h449 => ?_)
    refine va_sld hx hb hX hbl hbA hS (z_in (by omega) (by omega)) dL_law_450 ?_
    refine lv_topi (fun y450 e450 => ?_)
    refine lv_aload_n hx hb dL_law_451 rfl (lv_at hl 0 rfl) ?_
    refine lv_iload_n hx hb dL_law_452 rfl (lv_at hl 3 rfl) ?_
    refine z_bi hx hb dL_law_453 (by decide) (fun v453 h453 => ?_)
    refine z_addE hx hb dL_law_455 (by omega) (fun v455 h455 => ?_)
    refine va_sld hx hb hX hbl hbA hS (z_in (by omega) (by omega)) dL_law_456 ?_
    refine lv_topi (fun y456 e456 => ?_)
    have K457 : ∀ v465 : Int32, 0 ≤ v465.toInt ∧ v465.toInt ≤ 1 → W p l e room_1 s m #[Value.ref b] below meth c H locs 107 4467 Q (F0 m 465 ls [.int v465, .int y450, .int y445, .int y440, .int y435, .int y430, .ref (a2 0)]) := by
      intro v465 hv465
      obtain ⟨_, _, _, _, _, _, _, _, _, _, _, _, _, _, _, _, k465, _, _, _, _, _, _, _, _, _, _, _, _, _, _, _, _, _, _, _, _, _, _⟩ := mg_Mo hO2
      refine u_ci (z_rV (q0 := 0) (As := [.int y430, .int y435, .int y440, .int y445, .int y450, .int v465]) (rest := []) ⟨hx, hb, hml, hown, hts⟩ (c_X8_ledge l D cy a2 cnt nd wn S By Ah hJ2 y430 y435 y440 y445 y450 v465 (by omega)) (cwV 6 hts (g_V0 mw_586 mw_587 mw_588 mw_324 mw_589) rfl rfl rfl (by decide +kernel) ⟨Nat.le_of_ble_eq_true rfl, Nat.le_of_ble_eq_true rfl⟩) hK hN hO2 hP2 (by decide) k465 rfl rfl hl.1 rfl (Nat.le_of_ble_eq_true rfl) dL_law_465 ⟨by decide, by decide⟩) hS hg2 hap2 hP1 (fun r465 c2_465 H locs w465 hP2 hP1 hS => ?_)
      have z430 : y430 = y386 := by rw [e430, e386, show v429 = v385 from z_toI (by omega)]
      have z435 : y435 = y391 := by rw [e435, e391, show v434 = v390 from z_toI (by omega)]
      have z440 : y440 = y396 := by rw [e440, e396, show v439 = v395 from z_toI (by omega)]
      have z445 : y445 = y401 := by rw [e445, e401, show v444 = v400 from z_toI (by omega)]
      have z450 : y450 = y406 := by rw [e450, e406, show v449 = v405 from z_toI (by omega)]
      rw [z430, z435, z440, z445, z450] at w465
      have htie := top_tie w421 w465
      refine lv_pop hx hb dL_law_468 rfl ?_
      refine lv_goto (tgt := 1004) hx hb dL_law_469 (by decide) ?_
      obtain ⟨_, cnt2, hO1, hO2⟩ := htie
      exact kk _ _ ⟨cnt2, _, _, gOK_mono (by omega) hO1, hO2, hP1, hP2⟩ hS
    refine z_if_eq (tgt := 464) hx hb dL_law_457 (by decide) (fun c457 => ?_) (fun c457 => ?_)
    · skip
      refine z_ic hx hb dL_law_464 (by decide) (fun v464 h464 => ?_)
      exact K457 _ (by omega)
    · skip
      refine z_ic hx hb dL_law_460 (by decide) (fun v460 h460 => ?_)
      refine lv_goto (tgt := 465) hx hb dL_law_461 (by decide) ?_
      exact K457 _ (by omega)
  refine z_if_eq (tgt := 420) hx hb dL_law_413 (by decide) (fun c413 => ?_) (fun c413 => ?_)
  · skip
    refine z_ic hx hb dL_law_420 (by decide) (fun v420 h420 => ?_)
    exact K413 _ (by omega)
  · skip
    refine z_ic hx hb dL_law_416 (by decide) (fun v416 h416 => ?_)
    refine lv_goto (tgt := 421) hx hb dL_law_417 (by decide) ?_
    exact K413 _ (by omega)
