set_option maxHeartbeats 8000000 in
set_option maxRecDepth 100000 in
theorem lc_7 {p : Program} {l : Launch} {e : Env} {s : State} {m : MethodId} {below : List Frame} {meth : Method} {c : Code} {b L : Nat} {xs : Nat → Int32} {D : va_G} {cy : Nat → ClassId} {a1 a2 : Nat → Nat} {Q : State → Prop} (hL : L ≤ 4096) (C0 : lK p s m meth c b L xs D cy a1 a2) {B : Nat} (hB : 1 ≤ B ∧ B + 60 ≤ 1000000) {x3 : Int32} (hx3 : 0 ≤ x3.toInt ∧ x3.toInt + 8 ≤ (L : Int)) {H : Heap} {locs : List Loc} (hst : lS D cy a1 a2 B H) (hS : va_S (fun q : Nat => s.heap.size ≤ q) s.heap H locs) {ls : Array Slot} (hl : lv_has ls 4 [(0, .ref b), (1, .ref (a1 0)), (2, .ref (a2 0)), (3, .int x3)]) (kk : ∀ (H : Heap) (locs : List Loc), lS D cy a1 a2 (B + 60) H → va_S (fun q : Nat => s.heap.size ≤ q) s.heap H locs → W p l e room_1 s m #[Value.ref b] below meth c H locs 107 4467 Q (F0 m 1004 ls [])) : W p l e room_1 s m #[Value.ref b] below meth c H locs 107 4467 Q (F0 m 559 ls []) := by
  obtain ⟨⟨hx, hb, hr, hml, hown, hts, hX, hbl, hlocks, hgv⟩, hK, hN, hJ1, hJ2, hap, hg1, hg2⟩ := C0
  have hap2 : ∀ i j, i < 34 → j < 73 → a2 i ≠ a1 j := fun i j h1 h2 h3 => hap j i h2 h1 h3.symm
  have hts : ∀ w ∈ wsL_law, w.before #[Value.ref b] s = true := fun w h => hts w (wsL_law_in w h)
  have hbA : ¬ (fun q : Nat => s.heap.size ≤ q) b := Nat.not_le.mpr hbl
  obtain ⟨cnt, c1, c2, hO1, ⟨nd, wn, S, By, Ah, hO2⟩, hP1, hP2⟩ := hst
  refine lv_aload_n hx hb dL_law_559 rfl (lv_at hl 1 rfl) ?_
  refine rd_a 1 hx hb hX hbl hbA hS hl hx3 hL rfl (by decide) (by decide) dL_law_560 dL_law_561 dL_law_562 dL_law_563 dL_law_564 (fun y564 e564 => ?_)
  refine rd_a 2 hx hb hX hbl hbA hS hl hx3 hL rfl (by decide) (by decide) dL_law_565 dL_law_566 dL_law_567 dL_law_568 dL_law_569 (fun y569 e569 => ?_)
  refine rd_a 3 hx hb hX hbl hbA hS hl hx3 hL rfl (by decide) (by decide) dL_law_570 dL_law_571 dL_law_572 dL_law_573 dL_law_574 (fun y574 e574 => ?_)
  obtain ⟨_, _, k575, _, _⟩ := gg_GK hO1
  refine u_ci (z_rV (q0 := 0) (As := [.int y564, .int y569, .int y574]) (rest := []) ⟨hx, hb, hml, hown, hts⟩ (c_X7_may l D cy a1 cnt B (fun _ => True) hJ1 y564 y569 y574) (cwV 3 hts (g_V0 mw_598 mw_599 mw_600 mw_2 mw_601) rfl rfl rfl (by decide +kernel) ⟨Nat.le_of_ble_eq_true rfl, Nat.le_of_ble_eq_true rfl⟩) hK hN ⟨hO1, trivial⟩ hP1 (by decide) k575 rfl rfl hl.1 rfl (Nat.le_of_ble_eq_true rfl) dL_law_575 ⟨by decide, by decide⟩) hS hg1 hap hP2 (fun r575 c1_575 H locs w575 hP1 hP2 hS => ?_)
  have hO1 := w575.1.1
  refine lv_pop hx hb dL_law_578 rfl ?_
  refine lv_aload_n hx hb dL_law_579 rfl (lv_at hl 2 rfl) ?_
  refine rd_a 1 hx hb hX hbl hbA hS hl hx3 hL rfl (by decide) (by decide) dL_law_580 dL_law_581 dL_law_582 dL_law_583 dL_law_584 (fun y584 e584 => ?_)
  refine rd_a 2 hx hb hX hbl hbA hS hl hx3 hL rfl (by decide) (by decide) dL_law_585 dL_law_586 dL_law_587 dL_law_588 dL_law_589 (fun y589 e589 => ?_)
  refine rd_a 3 hx hb hX hbl hbA hS hl hx3 hL rfl (by decide) (by decide) dL_law_590 dL_law_591 dL_law_592 dL_law_593 dL_law_594 (fun y594 e594 => ?_)
  obtain ⟨_, _, _, _, _, _, _, _, _, _, _, _, _, _, _, _, k595, _, _, _, _, _, _, _, _, _, _, _, _, _, _, _, _, _, _, _, _, _, _⟩ := mg_Mo hO2
  refine u_ci (z_rV (q0 := 0) (As := [.int y584, .int y589, .int y594]) (rest := []) ⟨hx, hb, hml, hown, hts⟩ (c_X8_may l D cy a2 cnt nd wn S By Ah (fun _ => True) hJ2 y584 y589 y594) (cwV 3 hts (g_V0 mw_602 mw_603 mw_604 mw_324 mw_605) rfl rfl rfl (by decide +kernel) ⟨Nat.le_of_ble_eq_true rfl, Nat.le_of_ble_eq_true rfl⟩) hK hN ⟨hO2, trivial⟩ hP2 (by decide) k595 rfl rfl hl.1 rfl (Nat.le_of_ble_eq_true rfl) dL_law_595 ⟨by decide, by decide⟩) hS hg2 hap2 hP1 (fun r595 c2_595 H locs w595 hP2 hP1 hS => ?_)
  have hO2 := w595.1.1
  refine lv_pop hx hb dL_law_598 rfl ?_
  refine lv_goto (tgt := 1004) hx hb dL_law_599 (by decide) ?_
  exact kk _ _ ⟨cnt, _, _, (gOK_mono (by omega) hO1), ⟨_, _, _, _, _, hO2⟩, hP1, hP2⟩ hS
