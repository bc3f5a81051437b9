set_option maxHeartbeats 8000000 in
set_option maxRecDepth 100000 in
theorem lc_6 {p : Program} {l : Launch} {e : Env} {s : State} {m : MethodId} {below : List Frame} {meth : Method} {c : Code} {b L : Nat} {xs : Nat → Int32} {D : va_G} {cy : Nat → ClassId} {a1 a2 : Nat → Nat} {Q : State → Prop} (hL : L ≤ 4096) (C0 : lK p s m meth c b L xs D cy a1 a2) {B : Nat} (hB : 1 ≤ B ∧ B + 60 ≤ 1000000) {x3 : Int32} (hx3 : 0 ≤ x3.toInt ∧ x3.toInt + 8 ≤ (L : Int)) {H : Heap} {locs : List Loc} (hst : lS D cy a1 a2 B H) (hS : va_S (fun q : Nat => s.heap.size ≤ q) s.heap H locs) {ls : Array Slot} (hl : lv_has ls 4 [(0, .ref b), (1, .ref (a1 0)), (2, .ref (a2 0)), (3, .int x3)]) (kk : ∀ (H : Heap) (locs : List Loc), lS D cy a1 a2 (B + 60) H → va_S (fun q : Nat => s.heap.size ≤ q) s.heap H locs → W p l e room_1 s m #[Value.ref b] below meth c H locs 107 4467 Q (F0 m 1004 ls [])) : W p l e room_1 s m #[Value.ref b] below meth c H locs 107 4467 Q (F0 m 472 ls []) := by
  obtain ⟨⟨hx, hb, hr, hml, hown, hts, hX, hbl, hlocks, hgv⟩, hK, hN, hJ1, hJ2, hap, hg1, hg2⟩ := C0
  have hap2 : ∀ i j, i < 34 → j < 73 → a2 i ≠ a1 j := fun i j h1 h2 h3 => hap j i h2 h1 h3.symm
  have hts : ∀ w ∈ wsL_law, w.before #[Value.ref b] s = true := fun w h => hts w (wsL_law_in w h)
  have hbA : ¬ (fun q : Nat => s.heap.size ≤ q) b := Nat.not_le.mpr hbl
  obtain ⟨cnt, c1, c2, hO1, ⟨nd, wn, S, By, Ah, hO2⟩, hP1, hP2⟩ := hst
  refine lv_aload_n hx hb dL_law_472 rfl (lv_at hl 1 rfl) ?_
  refine lv_aload_n hx hb dL_law_473 rfl (lv_at hl 0 rfl) ?_
  refine lv_iload_n hx hb dL_law_474 rfl (lv_at hl 3 rfl) ?_
  refine z_ic hx hb dL_law_475 (by decide) (fun v475 h475 => ?_)
  refine z_addE hx hb dL_law_476 (by omega) (fun v476 h476 => ?_)
  refine va_sld hx hb hX hbl hbA hS (z_in (by omega) (by omega)) dL_law_477 ?_
  refine lv_topi (fun y477 e477 => ?_)
  refine lv_aload_n hx hb dL_law_478 rfl (lv_at hl 0 rfl) ?_
  refine lv_iload_n hx hb dL_law_479 rfl (lv_at hl 3 rfl) ?_
  refine z_ic hx hb dL_law_480 (by decide) (fun v480 h480 => ?_)
  refine z_addE hx hb dL_law_481 (by omega) (fun v481 h481 => ?_)
  refine va_sld hx hb hX hbl hbA hS (z_in (by omega) (by omega)) dL_law_482 ?_
  refine lv_topi (fun y482 e482 => ?_)
  refine lv_aload_n hx hb dL_law_483 rfl (lv_at hl 0 rfl) ?_
  refine lv_iload_n hx hb dL_law_484 rfl (lv_at hl 3 rfl) ?_
  refine z_ic hx hb dL_law_485 (by decide) (fun v485 h485 => ?_)
  refine z_addE hx hb dL_law_486 (by omega) (fun v486 h486 => ?_)
  refine va_sld hx hb hX hbl hbA hS (z_in (by omega) (by omega)) dL_law_487 ?_
  refine lv_topi (fun y487 e487 => ?_)
  refine lv_aload_n hx hb dL_law_488 rfl (lv_at hl 0 rfl) ?_
  refine lv_iload_n hx hb dL_law_489 rfl (lv_at hl 3 rfl) ?_
  refine z_ic hx hb dL_law_490 (by decide) (fun v490 h490 => ?_)
  refine z_addE hx hb dL_law_491 (by omega) (fun v491 h491 => ?_)
  refine va_sld hx hb hX hbl hbA hS (z_in (by omega) (by omega)) dL_law_492 ?_
  refine lv_topi (fun y492 e492 => ?_)
  refine lv_aload_n hx hb dL_law_493 rfl (lv_at hl 0 rfl) ?_
  refine lv_iload_n hx hb dL_law_494 rfl (lv_at hl 3 rfl) ?_
  refine z_ic hx hb dL_law_495 (by decide) (fun v495 h495 => ?_)
  refine z_addE hx hb dL_law_496 (by omega) (fun v496 h496 => ?_)
  refine va_sld hx hb hX hbl hbA hS (z_in (by omega) (by omega)) dL_law_497 ?_
  refine lv_topi (fun y497 e497 => ?_)
  refine lv_aload_n hx hb dL_law_498 rfl (lv_at hl 0 rfl) ?_
  refine lv_iload_n hx hb dL_law_499 rfl (lv_at hl 3 rfl) ?_
  refine z_bi hx hb dL_law_500 (by decide) (fun v500 h500 => ?_)
  refine z_addE hx hb dL_law_502 (by omega) (fun v502 h502 => ?_)
  refine va_sld hx hb hX hbl hbA hS (z_in (by omega) (by omega)) dL_law_503 ?_
  refine lv_topi (fun y503 e503 => ?_)
  refine lv_aload_n hx hb dL_law_504 rfl (lv_at hl 0 rfl) ?_
  refine lv_iload_n hx hb dL_law_505 rfl (lv_at hl 3 rfl) ?_
  refine z_bi hx hb dL_law_506 (by decide) (fun v506 h506 => ?_)
  refine z_addE hx hb dL_law_508 (by omega) (fun v508 h508 => ?_)
  refine va_sld hx hb hX hbl hbA hS (z_in (by omega) (by omega)) dL_law_509 ?_
  refine lv_topi (fun y509 e509 => ?_)
  obtain ⟨_, _, k510, _, _⟩ := gg_GK hO1
  refine u_ci (z_rV (q0 := 0) (As := [.int y477, .int y482, .int y487, .int y492, .int y497, .int y503, .int y509]) (rest := []) ⟨hx, hb, hml, hown, hts⟩ (c_X7_ladder l D cy a1 cnt B hJ1 y477 y482 y487 y492 y497 y503 y509) (cwV 7 hts (g_V0 mw_590 mw_591 mw_592 mw_2 mw_593) rfl rfl rfl (by decide +kernel) ⟨Nat.le_of_ble_eq_true rfl, Nat.le_of_ble_eq_true rfl⟩) hK hN hO1 hP1 (by decide) k510 rfl rfl hl.1 rfl (Nat.le_of_ble_eq_true rfl) dL_law_510 ⟨by decide, by decide⟩) hS hg1 hap hP2 (fun r510 c1_510 H locs w510 hP1 hP2 hS => ?_)
  refine lv_pop hx hb dL_law_513 rfl ?_
  refine lv_aload_n hx hb dL_law_514 rfl (lv_at hl 2 rfl) ?_
  refine lv_aload_n hx hb dL_law_515 rfl (lv_at hl 0 rfl) ?_
  refine lv_iload_n hx hb dL_law_516 rfl (lv_at hl 3 rfl) ?_
  refine z_ic hx hb dL_law_517 (by decide) (fun v517 h517 => ?_)
  refine z_addE hx hb dL_law_518 (by omega) (fun v518 h518 => ?_)
  refine va_sld hx hb hX hbl hbA hS (z_in (by omega) (by omega)) dL_law_519 ?_
  refine lv_topi (fun y519 e519 => ?_)
  refine lv_aload_n hx hb dL_law_520 rfl (lv_at hl 0 rfl) ?_
  refine lv_iload_n hx hb dL_law_521 rfl (lv_at hl 3 rfl) ?_
  refine z_ic hx hb dL_law_522 (by decide) (fun v522 h522 => ?_)
  refine z_addE hx hb dL_law_523 (by omega) (fun v523 h523 => ?_)
  refine va_sld hx hb hX hbl hbA hS (z_in (by omega) (by omega)) dL_law_524 ?_
  refine lv_topi (fun y524 e524 => ?_)
  refine lv_aload_n hx hb dL_law_525 rfl (lv_at hl 0 rfl) ?_
  refine lv_iload_n hx hb dL_law_526 rfl (lv_at hl 3 rfl) ?_
  refine z_ic hx hb dL_law_527 (by decide) (fun v527 h527 => ?_)
  refine z_addE hx hb dL_law_528 (by omega) (fun v528 h528 => ?_)
  refine va_sld hx hb hX hbl hbA hS (z_in (by omega) (by omega)) dL_law_529 ?_
  refine lv_topi (fun y529 e529 => ?_)
  refine lv_aload_n hx hb dL_law_530 rfl (lv_at hl 0 rfl) ?_
  refine lv_iload_n hx hb dL_law_531 rfl (lv_at hl 3 rfl) ?_
  refine z_ic hx hb dL_law_532 (by decide) (fun v532 h532 => ?_)
  refine z_addE hx hb dL_law_533 (by omega) (fun v533 h533 => ?_)
  refine va_sld hx hb hX hbl hbA hS (z_in (by omega) (by omega)) dL_law_534 ?_
  refine lv_topi (fun y534 e534 => ?_)
  refine lv_aload_n hx hb dL_law_535 rfl (lv_at hl 0 rfl) ?_
  refine lv_iload_n hx hb dL_law_536 rfl (lv_at hl 3 rfl) ?_
  refine z_ic hx hb dL_law_537 (by decide) (fun v537 h537 => ?_)
  refine z_addE hx hb dL_law_538 (by omega) (fun v538 h538 => ?_)
  refine va_sld hx hb hX hbl hbA hS (z_in (by omega) (by omega)) dL_law_539 ?_
  refine lv_topi (fun y539 e539 => ?_)
  refine lv_aload_n hx hb dL_law_540 rfl (lv_at hl 0 rfl) ?_
  refine lv_iload_n hx hb dL_law_541 rfl (lv_at hl 3 rfl) ?_
  refine z_bi hx hb dL_law_542 (by decide) (fun v542 h542 => ?_)
  refine z_addE hx hb dL_law_544 (by omega) (fun v544 h544 => ?_)
  refine va_sld hx hb hX hbl hbA hS (z_in (by omega) (by omega)) dL_law_545 ?_
  refine lv_topi (fun y545 e545 => ?_)
  refine lv_aload_n hx hb dL_law_546 rfl (lv_at hl 0 rfl) ?_
  refine lv_iload_n hx hb dL_law_547 rfl (lv_at hl 3 rfl) ?_
  refine z_bi hx hb dL_law_548 (by decide) (fun v548 h548 => ?_)
  refine z_addE hx hb dL_law_550 (by omega) (fun v550 h550 => ?_)
  refine va_sld hx hb hX hbl hbA hS (z_in (by omega) (by omega)) dL_law_551 ?_
  refine lv_topi (fun y551 e551 => ?_)
  obtain ⟨_, _, _, _, _, _, _, _, _, _, _, _, _, _, _, _, k552, _, _, _, _, _, _, _, _, _, _, _, _, _, _, _, _, _, _, _, _, _, _⟩ := mg_Mo hO2
  refine u_ci (z_rV (q0 := 0) (As := [.int y519, .int y524, .int y529, .int y534, .int y539, .int y545, .int y551]) (rest := []) ⟨hx, hb, hml, hown, hts⟩ (c_X8_ladder l D cy a2 cnt nd wn S By Ah hJ2 y519 y524 y529 y534 y539 y545 y551) (cwV 7 hts (g_V0 mw_594 mw_595 mw_596 mw_324 mw_597) rfl rfl rfl (by decide +kernel) ⟨Nat.le_of_ble_eq_true rfl, Nat.le_of_ble_eq_true rfl⟩) hK hN hO2 hP2 (by decide) k552 rfl rfl hl.1 rfl (Nat.le_of_ble_eq_true rfl) dL_law_552 ⟨by decide, by decide⟩) hS hg2 hap2 hP1 (fun r552 c2_552 H locs w552 hP2 hP1 hS => ?_)
  have z519 : y519 = y477 := by rw [e519, e477, show v518 = v476 from z_toI (by omega)]
  have z524 : y524 = y482 := by rw [e524, e482, show v523 = v481 from z_toI (by omega)]
  have z529 : y529 = y487 := by rw [e529, e487, show v528 = v486 from z_toI (by omega)]
  have z534 : y534 = y492 := by rw [e534, e492, show v533 = v491 from z_toI (by omega)]
  have z539 : y539 = y497 := by rw [e539, e497, show v538 = v496 from z_toI (by omega)]
  have z545 : y545 = y503 := by rw [e545, e503, show v544 = v502 from z_toI (by omega)]
  have z551 : y551 = y509 := by rw [e551, e509, show v550 = v508 from z_toI (by omega)]
  rw [z519, z524, z529, z534, z539, z545, z551] at w552
  have htie := top_tie w510 w552
  refine lv_pop hx hb dL_law_555 rfl ?_
  refine lv_goto (tgt := 1004) hx hb dL_law_556 (by decide) ?_
  obtain ⟨_, cnt2, hO1, hO2⟩ := htie
  exact kk _ _ ⟨cnt2, _, _, gOK_mono (by omega) hO1, hO2, hP1, hP2⟩ hS
