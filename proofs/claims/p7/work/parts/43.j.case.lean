set_option maxHeartbeats 8000000 in
set_option maxRecDepth 100000 in
theorem lc_9 {p : Program} {l : Launch} {e : Env} {s : State} {m : MethodId} {below : List Frame} {meth : Method} {c : Code} {b L : Nat} {xs : Nat → Int32} {D : va_G} {cy : Nat → ClassId} {a1 a2 : Nat → Nat} {Q : State → Prop} (hL : L ≤ 4096) (C0 : lK p s m meth c b L xs D cy a1 a2) {B : Nat} (hB : 1 ≤ B ∧ B + 60 ≤ 1000000) {x3 : Int32} (hx3 : 0 ≤ x3.toInt ∧ x3.toInt + 8 ≤ (L : Int)) {H : Heap} {locs : List Loc} (hst : lS D cy a1 a2 B H) (hS : va_S (fun q : Nat => s.heap.size ≤ q) s.heap H locs) {ls : Array Slot} (hl : lv_has ls 4 [(0, .ref b), (1, .ref (a1 0)), (2, .ref (a2 0)), (3, .int x3)]) (kk : ∀ (H : Heap) (locs : List Loc), lS D cy a1 a2 (B + 60) H → va_S (fun q : Nat => s.heap.size ≤ q) s.heap H locs → W p l e room_1 s m #[Value.ref b] below meth c H locs 107 4467 Q (F0 m 1004 ls [])) : W p l e room_1 s m #[Value.ref b] below meth c H locs 107 4467 Q (F0 m 665 ls []) := by
  obtain ⟨⟨hx, hb, hr, hml, hown, hts, hX, hbl, hlocks, hgv⟩, hK, hN, hJ1, hJ2, hap, hg1, hg2⟩ := C0
  have hap2 : ∀ i j, i < 34 → j < 73 → a2 i ≠ a1 j := fun i j h1 h2 h3 => hap j i h2 h1 h3.symm
  have hts : ∀ w ∈ wsL_law, w.before #[Value.ref b] s = true := fun w h => hts w (wsL_law_in w h)
  have hbA : ¬ (fun q : Nat => s.heap.size ≤ q) b := Nat.not_le.mpr hbl
  obtain ⟨cnt, c1, c2, hO1, ⟨nd, wn, S, By, Ah, hO2⟩, hP1, hP2⟩ := hst
  refine lv_aload_n hx hb dL_law_665 rfl (lv_at hl 1 rfl) ?_
  refine rd_a 1 hx hb hX hbl hbA hS hl hx3 hL rfl (by decide) (by decide) dL_law_666 dL_law_667 dL_law_668 dL_law_669 dL_law_670 (fun y670 e670 => ?_)
  refine rd_a 2 hx hb hX hbl hbA hS hl hx3 hL rfl (by decide) (by decide) dL_law_671 dL_law_672 dL_law_673 dL_law_674 dL_law_675 (fun y675 e675 => ?_)
  refine rd_a 3 hx hb hX hbl hbA hS hl hx3 hL rfl (by decide) (by decide) dL_law_676 dL_law_677 dL_law_678 dL_law_679 dL_law_680 (fun y680 e680 => ?_)
  refine rd_a 4 hx hb hX hbl hbA hS hl hx3 hL rfl (by decide) (by decide) dL_law_681 dL_law_682 dL_law_683 dL_law_684 dL_law_685 (fun y685 e685 => ?_)
  refine rd_a 5 hx hb hX hbl hbA hS hl hx3 hL rfl (by decide) (by decide) dL_law_686 dL_law_687 dL_law_688 dL_law_689 dL_law_690 (fun y690 e690 => ?_)
  refine rd_b 6 hx hb hX hbl hbA hS hl hx3 hL rfl (by decide) (by decide) dL_law_691 dL_law_692 dL_law_693 dL_law_695 dL_law_696 (fun y696 e696 => ?_)
  obtain ⟨_, _, k697, _, _⟩ := gg_GK hO1
  refine u_ci (z_rV (q0 := 0) (As := [.int y670, .int y675, .int y680, .int y685, .int y690, .int y696]) (rest := []) ⟨hx, hb, hml, hown, hts⟩ (c_X7_way l D cy a1 cnt B hJ1 y670 y675 y680 y685 y690 y696) (cwV 6 hts (g_V0 mw_614 mw_615 mw_616 mw_2 mw_617) rfl rfl rfl (by decide +kernel) ⟨Nat.le_of_ble_eq_true rfl, Nat.le_of_ble_eq_true rfl⟩) hK hN hO1 hP1 (by decide) k697 rfl rfl hl.1 rfl (Nat.le_of_ble_eq_true rfl) dL_law_697 ⟨by decide, by decide⟩) hS hg1 hap hP2 (fun r697 c1_697 H locs w697 hP1 hP2 hS => ?_)
  have hO1 := w697.1
  refine lv_pop hx hb dL_law_700 rfl ?_
  refine lv_aload_n hx hb dL_law_701 rfl (lv_at hl 2 rfl) ?_
  refine rd_a 1 hx hb hX hbl hbA hS hl hx3 hL rfl (by decide) (by decide) dL_law_702 dL_law_703 dL_law_704 dL_law_705 dL_law_706 (fun y706 e706 => ?_)
  refine rd_a 2 hx hb hX hbl hbA hS hl hx3 hL rfl (by decide) (by decide) dL_law_707 dL_law_708 dL_law_709 dL_law_710 dL_law_711 (fun y711 e711 => ?_)
  refine rd_a 3 hx hb hX hbl hbA hS hl hx3 hL rfl (by decide) (by decide) dL_law_712 dL_law_713 dL_law_714 dL_law_715 dL_law_716 (fun y716 e716 => ?_)
  refine rd_a 4 hx hb hX hbl hbA hS hl hx3 hL rfl (by decide) (by decide) dL_law_717 dL_law_718 dL_law_719 dL_law_720 dL_law_721 (fun y721 e721 => ?_)
  refine rd_a 5 hx hb hX hbl hbA hS hl hx3 hL rfl (by decide) (by decide) dL_law_722 dL_law_723 dL_law_724 dL_law_725 dL_law_726 (fun y726 e726 => ?_)
  refine rd_b 6 hx hb hX hbl hbA hS hl hx3 hL rfl (by decide) (by decide) dL_law_727 dL_law_728 dL_law_729 dL_law_731 dL_law_732 (fun y732 e732 => ?_)
  obtain ⟨_, _, _, _, _, _, _, _, _, _, _, _, _, _, _, _, k733, _, _, _, _, _, _, _, _, _, _, _, _, _, _, _, _, _, _, _, _, _, _⟩ := mg_Mo hO2
  refine u_ci (z_rV (q0 := 0) (As := [.int y706, .int y711, .int y716, .int y721, .int y726, .int y732]) (rest := []) ⟨hx, hb, hml, hown, hts⟩ (c_X8_way l D cy a2 cnt nd wn S By Ah hJ2 y706 y711 y716 y721 y726 y732) (cwV 6 hts (g_V0 mw_618 mw_619 mw_620 mw_324 mw_621) rfl rfl rfl (by decide +kernel) ⟨Nat.le_of_ble_eq_true rfl, Nat.le_of_ble_eq_true rfl⟩) hK hN hO2 hP2 (by decide) k733 rfl rfl hl.1 rfl (Nat.le_of_ble_eq_true rfl) dL_law_733 ⟨by decide, by decide⟩) hS hg2 hap2 hP1 (fun r733 c2_733 H locs w733 hP2 hP1 hS => ?_)
  obtain ⟨nd, wn, S, By, Ah, hO2⟩ := w733
  refine lv_pop hx hb dL_law_736 rfl ?_
  refine lv_goto (tgt := 1004) hx hb dL_law_737 (by decide) ?_
  exact kk _ _ ⟨cnt, _, _, (gOK_mono (by omega) hO1), ⟨_, _, _, _, _, hO2⟩, hP1, hP2⟩ hS
