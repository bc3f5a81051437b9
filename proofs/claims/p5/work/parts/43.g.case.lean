set_option maxHeartbeats 8000000 in
set_option maxRecDepth 100000 in
theorem lc_6 {p : Program} {l : Launch} {e : Env} {s : State} {m : MethodId} {below : List Frame} {meth : Method} {c : Code} {b L : Nat} {xs : Nat → Int32} {D : va_G} {cy : Nat → ClassId} {a1 a2 : Nat → Nat} {Q : State → Prop} (hL : L ≤ 4096) (C0 : lK p s m meth c b L xs D cy a1 a2) {B : Nat} (hB : 1 ≤ B ∧ B + 60 ≤ 1000000) {x3 : Int32} (hx3 : 0 ≤ x3.toInt ∧ x3.toInt + 8 ≤ (L : Int)) {H : Heap} {locs : List Loc} (hst : lS D cy a1 a2 B H) (hS : va_S (fun q : Nat => s.heap.size ≤ q) s.heap H locs) {ls : Array Slot} (hl : lv_has ls 4 [(0, .ref b), (1, .ref (a1 0)), (2, .ref (a2 0)), (3, .int x3)]) (kk : ∀ (H : Heap) (locs : List Loc), lS D cy a1 a2 (B + 60) H → va_S (fun q : Nat => s.heap.size ≤ q) s.heap H locs → W p l e room_1 s m #[Value.ref b] below meth c H locs 107 4467 Q (F0 m 1004 ls [])) : W p l e room_1 s m #[Value.ref b] below meth c H locs 107 4467 Q (F0 m 472 ls []) := by
  obtain ⟨⟨hx, hb, hr, hml, hown, hts, hX, hbl, hlocks, hgv⟩, hK, hN, hJ1, hJ2, hap, hg1, hg2⟩ := C0
  have hap2 : ∀ i j, i < 34 → j < 73 → a2 i ≠ a1 j := fun i j h1 h2 h3 => hap j i h2 h1 h3.symm
  have hts : ∀ w ∈ wsL_law, w.before #[Value.ref b] s = true := fun w h => hts w (wsL_law_in w h)
  have hbA : ¬ (fun q : Nat => s.heap.size ≤ q) b := Nat.not_le.mpr hbl
  obtain ⟨cnt, c1, c2, hO1, ⟨nd, wn, S, By, Ah, hO2⟩, hP1, hP2⟩ := hst
  refine lv_aload_n hx hb dL_law_472 rfl (lv_at hl 1 rfl) ?_
  refine rd_a 1 hx hb hX hbl hbA hS hl hx3 hL rfl (by decide) (by decide) dL_law_473 dL_law_474 dL_law_475 dL_law_476 dL_law_477 (fun y477 e477 => ?_)
  refine rd_a 2 hx hb hX hbl hbA hS hl hx3 hL rfl (by decide) (by decide) dL_law_478 dL_law_479 dL_law_480 dL_law_481 dL_law_482 (fun y482 e482 => ?_)
  refine rd_a 3 hx hb hX hbl hbA hS hl hx3 hL rfl (by decide) (by decide) dL_law_483 dL_law_484 dL_law_485 dL_law_486 dL_law_487 (fun y487 e487 => ?_)
  refine rd_a 4 hx hb hX hbl hbA hS hl hx3 hL rfl (by decide) (by decide) dL_law_488 dL_law_489 dL_law_490 dL_law_491 dL_law_492 (fun y492 e492 => ?_)
  refine rd_a 5 hx hb hX hbl hbA hS hl hx3 hL rfl (by decide) (by decide) dL_law_493 dL_law_494 dL_law_495 dL_law_496 dL_law_497 (fun y497 e497 => ?_)
  refine rd_b 6 hx hb hX hbl hbA hS hl hx3 hL rfl (by decide) (by decide) dL_law_498 dL_law_499 dL_law_500 dL_law_502 dL_law_503 (fun y503 e503 => ?_)
  refine rd_b 7 hx hb hX hbl hbA hS hl hx3 hL rfl (by decide) (by decide) dL_law_504 dL_law_505 dL_law_506 dL_law_508 dL_law_509 (fun y509 e509 => ?_)
  obtain ⟨_, _, k510, _, _⟩ := gg_GK hO1
  refine u_ci (z_rV (q0 := 0) (As := [.int y477, .int y482, .int y487, .int y492, .int y497, .int y503, .int y509]) (rest := []) ⟨hx, hb, hml, hown, hts⟩ (c_X7_ladder l D cy a1 cnt B hJ1 y477 y482 y487 y492 y497 y503 y509) (cwV 7 hts (g_V0 mw_590 mw_591 mw_592 mw_2 mw_593) rfl rfl rfl (by decide +kernel) ⟨Nat.le_of_ble_eq_true rfl, Nat.le_of_ble_eq_true rfl⟩) hK hN hO1 hP1 (by decide) k510 rfl rfl hl.1 rfl (Nat.le_of_ble_eq_true rfl) dL_law_510 ⟨by decide, by decide⟩) hS hg1 hap hP2 (fun r510 c1_510 H locs w510 hP1 hP2 hS => ?_)
  refine lv_pop hx hb dL_law_513 rfl ?_
  refine lv_aload_n hx hb dL_law_514 rfl (lv_at hl 2 rfl) ?_
  refine rd_a 1 hx hb hX hbl hbA hS hl hx3 hL rfl (by decide) (by decide) dL_law_515 dL_law_516 dL_law_517 dL_law_518 dL_law_519 (fun y519 e519 => ?_)
  refine rd_a 2 hx hb hX hbl hbA hS hl hx3 hL rfl (by decide) (by decide) dL_law_520 dL_law_521 dL_law_522 dL_law_523 dL_law_524 (fun y524 e524 => ?_)
  refine rd_a 3 hx hb hX hbl hbA hS hl hx3 hL rfl (by decide) (by decide) dL_law_525 dL_law_526 dL_law_527 dL_law_528 dL_law_529 (fun y529 e529 => ?_)
  refine rd_a 4 hx hb hX hbl hbA hS hl hx3 hL rfl (by decide) (by decide) dL_law_530 dL_law_531 dL_law_532 dL_law_533 dL_law_534 (fun y534 e534 => ?_)
  refine rd_a 5 hx hb hX hbl hbA hS hl hx3 hL rfl (by decide) (by decide) dL_law_535 dL_law_536 dL_law_537 dL_law_538 dL_law_539 (fun y539 e539 => ?_)
  refine rd_b 6 hx hb hX hbl hbA hS hl hx3 hL rfl (by decide) (by decide) dL_law_540 dL_law_541 dL_law_542 dL_law_544 dL_law_545 (fun y545 e545 => ?_)
  refine rd_b 7 hx hb hX hbl hbA hS hl hx3 hL rfl (by decide) (by decide) dL_law_546 dL_law_547 dL_law_548 dL_law_550 dL_law_551 (fun y551 e551 => ?_)
  obtain ⟨_, _, _, _, _, _, _, _, _, _, _, _, _, _, _, _, k552, _, _, _, _, _, _, _, _, _, _, _, _, _, _, _, _, _, _, _, _, _, _⟩ := mg_Mo hO2
  refine u_ci (z_rV (q0 := 0) (As := [.int y519, .int y524, .int y529, .int y534, .int y539, .int y545, .int y551]) (rest := []) ⟨hx, hb, hml, hown, hts⟩ (c_X8_ladder l D cy a2 cnt nd wn S By Ah hJ2 y519 y524 y529 y534 y539 y545 y551) (cwV 7 hts (g_V0 mw_594 mw_595 mw_596 mw_324 mw_597) rfl rfl rfl (by decide +kernel) ⟨Nat.le_of_ble_eq_true rfl, Nat.le_of_ble_eq_true rfl⟩) hK hN hO2 hP2 (by decide) k552 rfl rfl hl.1 rfl (Nat.le_of_ble_eq_true rfl) dL_law_552 ⟨by decide, by decide⟩) hS hg2 hap2 hP1 (fun r552 c2_552 H locs w552 hP2 hP1 hS => ?_)
  have z519 : y519 = y477 := e519.trans e477.symm
  have z524 : y524 = y482 := e524.trans e482.symm
  have z529 : y529 = y487 := e529.trans e487.symm
  have z534 : y534 = y492 := e534.trans e492.symm
  have z539 : y539 = y497 := e539.trans e497.symm
  have z545 : y545 = y503 := e545.trans e503.symm
  have z551 : y551 = y509 := e551.trans e509.symm
  rw [z519, z524, z529, z534, z539, z545, z551] at w552
  have htie := top_tie w510 w552
  refine lv_pop hx hb dL_law_555 rfl ?_
  refine lv_goto (tgt := 1004) hx hb dL_law_556 (by decide) ?_
  obtain ⟨_, cnt2, hO1, hO2⟩ := htie
  exact kk _ _ ⟨cnt2, _, _, gOK_mono (by omega) hO1, hO2, hP1, hP2⟩ hS
