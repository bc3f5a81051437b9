set_option maxHeartbeats 8000000 in
set_option maxRecDepth 100000 in
theorem lc_9 {p : Program} {l : Launch} {e : Env} {s : State} {m : MethodId} {below : List Frame} {meth : Method} {c : Code} {b L : Nat} {xs : Nat → Int32} {D : va_G} {cy : Nat → ClassId} {a1 a2 : Nat → Nat} {Q : State → Prop} (hL : L ≤ 4096) (C0 : lK p s m meth c b L xs D cy a1 a2) {B : Nat} (hB : 1 ≤ B ∧ B + 60 ≤ 1000000) {x3 : Int32} (hx3 : 0 ≤ x3.toInt ∧ x3.toInt + 8 ≤ (L : Int)) {H : Heap} {locs : List Loc} (hst : lS D cy a1 a2 B H) (hS : va_S (fun q : Nat => s.heap.size ≤ q) s.heap H locs) {ls : Array Slot} (hl : lv_has ls 4 [(0, .ref b), (1, .ref (a1 0)), (2, .ref (a2 0)), (3, .int x3)]) (kk : ∀ (H : Heap) (locs : List Loc), lS D cy a1 a2 (B + 60) H → va_S (fun q : Nat => s.heap.size ≤ q) s.heap H locs → W p l e room_1 s m #[Value.ref b] below meth c H locs 107 4467 Q (F0 m 1004 ls [])) : W p l e room_1 s m #[Value.ref b] below meth c H locs 107 4467 Q (F0 m 665 ls []) := by
  obtain ⟨⟨hx, hb, hr, hml, hown, hts, hX, hbl, hlocks, hgv⟩, hK, hN, hJ1, hJ2, hap, hg1, hg2⟩ := C0
  have hap2 : ∀ i j, i < 34 → j < 73 → a2 i ≠ a1 j := fun i j h1 h2 h3 => hap j i h2 h1 h3.symm
  have hts : ∀ w ∈ wsL_law, w.before #[Value.ref b] s = true := fun w h => hts w (wsL_law_in w h)
  have hbA : ¬ (fun q : Nat => s.heap.size ≤ q) b := Nat.not_le.mpr hbl
  obtain ⟨cnt, c1, c2, hO1, ⟨nd, wn, S, By, Ah, hO2⟩, hP1, hP2⟩ := hst
  refine lv_aload_n hx hb dL_law_665 rfl (lv_at hl 1 rfl) ?_
  refine lv_aload_n hx hb dL_law_666 rfl (lv_at hl 0 rfl) ?_
  refine lv_iload_n hx hb dL_law_667 rfl (lv_at hl 3 rfl) ?_
  refine z_ic hx hb dL_law_668 (by decide) (fun v668 h668 => ?_)
  refine z_addE hx hb dL_law_669 (by omega) (fun v669 h669 => ?_)
  refine va_sld hx hb hX hbl hbA hS (z_in (by omega) (by omega)) dL_law_670 ?_
  refine lv_topi (fun y670 e670 => ?_)
  refine lv_aload_n hx hb dL_law_671 rfl (lv_at hl 0 rfl) ?_
  refine lv_iload_n hx hb dL_law_672 rfl (lv_at hl 3 rfl) ?_
  refine z_ic hx hb dL_law_673 (by decide) (fun v673 h673 => ?_)
  refine z_addE hx hb dL_law_674 (by omega) (fun v674 h674 => ?_)
  refine va_sld hx hb hX hbl hbA hS (z_in (by omega) (by omega)) dL_law_675 ?_
  refine lv_topi (fun y675 e675 => ?_)
  refine lv_aload_n hx hb dL_law_676 rfl (lv_at hl 0 rfl) ?_
  refine lv_iload_n hx hb dL_law_677 rfl (lv_at hl 3 rfl) ?_
  refine z_ic hx hb dL_law_678 (by decide) (fun v678 h678 => ?_)
  refine z_addE hx hb dL_law_679 (by omega) (fun v679 h679 => ?_)
  refine va_sld hx hb hX hbl hbA hS (z_in (by omega) (by omega)) dL_law_680 ?_
  refine lv_topi (fun y680 e680 => ?_)
  refine lv_aload_n hx hb dL_law_681 rfl (lv_at hl 0 rfl) ?_
  refine lv_iload_n hx hb dL_law_682 rfl (lv_at hl 3 rfl) ?_
  refine z_ic hx hb dL_law_683 (by decide) (fun v683 h683 => ?_)
  refine z_addE hx hb dL_law_684 (by omega) (fun v684 h684 => ?_)
  refine va_sld hx hb hX hbl hbA hS (z_in (by omega) (by omega)) dL_law_685 ?_
  refine lv_topi (fun y685 e685 => ?_)
  refine lv_aload_n hx hb dL_law_686 rfl (lv_at hl 0 rfl) ?_
  refine lv_iload_n hx hb dL_law_687 rfl (lv_at hl 3 rfl) ?_
  refine z_ic hx hb dL_law_688 (by decide) (fun v688 h688 => ?_)
  refine z_addE hx hb dL_law_689 (by omega) (fun v689 h689 => ?_)
  refine va_sld hx hb hX hbl hbA hS (z_in (by omega) (by omega)) dL_law_690 ?_
  refine lv_topi (fun y690 e690 => ?_)
  refine lv_aload_n hx hb dL_law_691 rfl (lv_at hl 0 rfl) ?_
  refine lv_iload_n hx hb dL_law_692 rfl (lv_at hl 3 rfl) ?_
  refine z_bi hx hb dL_law_693 (by decide) (fun v693 h693 => ?_)
  refine z_addE hx hb dL_law_695 (by omega) (fun v695 h695 => ?_)
  refine va_sld hx hb hX hbl hbA hS (z_in (by omega) (by omega)) dL_law_696 ?_
  refine lv_topi (fun y696 e696 => ?_)
  obtain ⟨_, _, k697, _, _⟩ := gg_GK hO1
  refine u_ci (z_rV (q0 := 0) (As := [.int y670, .int y675, .int y680, .int y685, .int y690, .int y696]) (rest := []) ⟨hx, hb, hml, hown, hts⟩ (c_X7_way l D cy a1 cnt B hJ1 y670 y675 y680 y685 y690 y696) (cwV 6 hts (g_V0 mw_614 mw_615 mw_616 mw_2 mw_617) rfl rfl rfl (by decide +kernel) ⟨Nat.le_of_ble_eq_true rfl, Nat.le_of_ble_eq_true rfl⟩) hK hN hO1 hP1 (by decide) k697 rfl rfl hl.1 rfl (Nat.le_of_ble_eq_true rfl) dL_law_697 ⟨by decide, by decide⟩) hS hg1 hap hP2 (fun r697 c1_697 H locs w697 hP1 hP2 hS => ?_)
  have hO1 := w697.1
  refine lv_pop hx hb dL_law_700 rfl ?_
  refine lv_aload_n hx hb dL_law_701 rfl (lv_at hl 2 rfl) ?_
  refine lv_aload_n hx hb dL_law_702 rfl (lv_at hl 0 rfl) ?_
  refine lv_iload_n hx hb dL_law_703 rfl (lv_at hl 3 rfl) ?_
  refine z_ic hx hb dL_law_704 (by decide) (fun v704 h704 => ?_)
  refine z_addE hx hb dL_law_705 (by omega) (fun v705 h705 => ?_)
  refine va_sld hx hb hX hbl hbA hS (z_in (by omega) (by omega)) dL_law_706 ?_
  refine lv_topi (fun y706 e706 => ?_)
  refine lv_aload_n hx hb dL_law_707 rfl (lv_at hl 0 rfl) ?_
  refine lv_iload_n hx hb dL_law_708 rfl (lv_at hl 3 rfl) ?_
  refine z_ic hx hb dL_law_709 (by decide) (fun v709 h709 => ?_)
  refine z_addE hx hb dL_law_710 (by omega) (fun v710 h710 => ?_)
  refine va_sld hx hb hX hbl hbA hS (z_in (by omega) (by omega)) dL_law_711 ?_
  refine lv_topi (fun y711 e711 => ?_)
  refine lv_aload_n hx hb dL_law_712 rfl (lv_at hl 0 rfl) ?_
  refine lv_iload_n hx hb dL_law_713 rfl (lv_at hl 3 rfl) ?_
  refine z_ic hx hb dL_law_714 (by decide) (fun v714 h714 => ?_)
  refine z_addE hx hb dL_law_715 (by omega) (fun v715 h715 => ?_)
  refine va_sld hx hb hX hbl hbA hS (z_in (by omega) (by omega)) dL_law_716 ?_
  refine lv_topi (fun y716 e716 => ?_)
  refine lv_aload_n hx hb dL_law_717 rfl (lv_at hl 0 rfl) ?_
  refine lv_iload_n hx hb dL_law_718 rfl (lv_at hl 3 rfl) ?_
  refine z_ic hx hb dL_law_719 (by decide) (fun v719 h719 => ?_)
  refine z_addE hx hb dL_law_720 (by omega) (fun v720 h720 => ?_)
  refine va_sld hx hb hX hbl hbA hS (z_in (by omega) (by omega)) dL_law_721 ?_
  refine lv_topi (fun y721 e721 => ?_)
  refine lv_aload_n hx hb dL_law_722 rfl (lv_at hl 0 rfl) ?_
  refine lv_iload_n hx hb dL_law_723 rfl (lv_at hl 3 rfl) ?_
  refine z_ic hx hb dL_law_724 (by decide) (fun v724 h724 => ?_)
  refine z_addE hx hb dL_law_725 (by omega) (fun v725 h725 => ?_)
  refine va_sld hx hb hX hbl hbA hS (z_in (by omega) (by omega)) dL_law_726 ?_
  refine lv_topi (fun y726 e726 => ?_)
  refine lv_aload_n hx hb dL_law_727 rfl (lv_at hl 0 rfl) ?_
  refine lv_iload_n hx hb dL_law_728 rfl (lv_at hl 3 rfl) ?_
  refine z_bi hx hb dL_law_729 (by decide) (fun v729 h729 => ?_)
  refine z_addE hx hb dL_law_731 (by omega) (fun v731 h731 => ?_)
  refine va_sld hx hb hX hbl hbA hS (z_in (by omega) (by omega)) dL_law_732 ?_
  refine lv_topi (fun y732 e732 => ?_)
  obtain ⟨_, _, _, _, _, _, _, _, _, _, _, _, _, _, _, _, k733, _, _, _, _, _, _, _, _, _, _, _, _, _, _, _, _, _, _, _, _, _, _⟩ := mg_Mo hO2
  refine u_ci (z_rV (q0 := 0) (As := [.int y706, .int y711, .int y716, .int y721, .int y726, .int y732]) (rest := []) ⟨hx, hb, hml, hown, hts⟩ (c_X8_way l D cy a2 cnt nd wn S By Ah hJ2 y706 y711 y716 y721 y726 y732) (cwV 6 hts (g_V0 mw_618 mw_619 mw_620 mw_324 mw_621) rfl rfl rfl (by decide +kernel) ⟨Nat.le_of_ble_eq_true rfl, Nat.le_of_ble_eq_true rfl⟩) hK hN hO2 hP2 (by decide) k733 rfl rfl hl.1 rfl (Nat.le_of_ble_eq_true rfl) dL_law_733 ⟨by decide, by decide⟩) hS hg2 hap2 hP1 (fun r733 c2_733 H locs w733 hP2 hP1 hS => ?_)
  obtain ⟨nd, wn, S, By, Ah, hO2⟩ := w733
  refine lv_pop hx hb dL_law_736 rfl ?_
  refine lv_goto (tgt := 1004) hx hb dL_law_737 (by decide) ?_
  exact kk _ _ ⟨cnt, _, _, (gOK_mono (by omega) hO1), ⟨_, _, _, _, _, hO2⟩, hP1, hP2⟩ hS
