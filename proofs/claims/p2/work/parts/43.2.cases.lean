set_option maxHeartbeats 8000000 in
set_option maxRecDepth 100000 in
theorem lc_9 {p : Program} {l : Launch} {e : Env} {s : State} {m : MethodId} {below : List Frame} {meth : Method} {c : Code} {b L : Nat} {xs : Nat → Int32} {D : va_G} {cy : Nat → ClassId} {a1 a2 : Nat → Nat} {Q : State → Prop} (hL : L ≤ 4096) (C0 : lK p s m meth c b L xs D cy a1 a2) {B : Nat} (hB : 1 ≤ B ∧ B + 60 ≤ 1000000) {x3 : Int32} (hx3 : 0 ≤ x3.toInt ∧ x3.toInt + 8 ≤ (L : Int)) {H : Heap} {locs : List Loc} (hst : lS D cy a1 a2 B H) (hS : va_S (fun q : Nat => s.heap.size ≤ q) s.heap H locs) {ls : Array Slot} (hl : lv_has ls 4 [(0, .ref b), (1, .ref (a1 0)), (2, .ref (a2 0)), (3, .int x3)]) (kk : ∀ (H : Heap) (locs : List Loc), lS D cy a1 a2 (B + 60) H → va_S (fun q : Nat => s.heap.size ≤ q) s.heap H locs → W p l e room_1 s m #[Value.ref b] below meth c H locs 107 4467 Q (F0 m 1004 ls [])) : W p l e room_1 s m #[Value.ref b] below meth c H locs 107 4467 Q (F0 m 665 ls []) := by
  obtain ⟨⟨hx, hb, hr, hml, hown, hts, hX, hbl, hlocks, hgv⟩, hK, hN, hJ1, hJ2, hap, hg1, hg2⟩ := C0
  have hap2 : ∀ i j, i < 34 → j < 73 → a2 i ≠ a1 j := fun i j h1 h2 h3 => hap j i h2 h1 h3.symm
  have hts : ∀ w ∈ wsL_law, w.before #[Value.ref b] s = true := fun w h => hts w (wsL_law_in w h)
  have hbA : ¬ (fun q : Nat => s.heap.size ≤ q) b := Nat.not_le.mpr hbl
  obtain ⟨cnt, c1, c2, hO1, ⟨nd, wn, S, By, Ah, hO2⟩, hP1, hP2⟩ := hst
  refine lv_aload_n hx hb dL_law_665 rfl (lv_at hl 1 rfl) ?_
  refine lv_aload_n hx hb dL_law_666 rfl (lv_at hl 0 rfl) ?_
  refine lv_iload_n hx hb dL_law_667 rfl (lv_at hl 3 rfl) ?_
  refine z_ic hx hb dL_law_668 (by decide) (fun v668 h668 => ?_)
  refine z_addE hx hb dL_law_669 (by omega) (fun v669 h669 => ?_)
  refine va_sld hx hb hX hbl hbA hS (z_in (by omega) (by omega)) dL_law_670 ?_
  refine lv_topi (fun y670 e670 => ?_)
  refine lv_aload_n hx hb dL_law_671 rfl (lv_at hl 0 rfl) ?_
  refine lv_iload_n hx hb dL_law_672 rfl (lv_at hl 3 rfl) ?_
  refine z_ic hx hb dL_law_673 (by decide) (fun v673 h673 => ?_)
  refine z_addE hx hb dL_law_674 (by omega) (fun v674 h674 => ?_)
  refine va_sld hx hb hX hbl hbA hS (z_in (by omega) (by omega)) dL_law_675 ?_
  refine lv_topi (fun y675 e675 => ?_)
  refine lv_aload_n hx hb dL_law_676 rfl (lv_at hl 0 rfl) ?_
  refine lv_iload_n hx hb dL_law_677 rfl (lv_at hl 3 rfl) ?_
  refine z_ic hx hb dL_law_678 (by decide) (fun v678 h678 => ?_)
  refine z_addE hx hb dL_law_679 (by omega) (fun v679 h679 => ?_)
  refine va_sld hx hb hX hbl hbA hS (z_in (by omega) (by omega)) dL_law_680 ?_
  refine lv_topi (fun y680 e680 => ?_)
  refine lv_aload_n hx hb dL_law_681 rfl (lv_at hl 0 rfl) ?_
  refine lv_iload_n hx hb dL_law_682 rfl (lv_at hl 3 rfl) ?_
  refine z_ic hx hb dL_law_683 (by decide) (fun v683 h683 => ?_)
  refine z_addE hx hb dL_law_684 (by omega) (fun v684 h684 => ?_)
  refine va_sld hx hb hX hbl hbA hS (z_in (by omega) (by omega)) dL_law_685 ?_
  refine lv_topi (fun y685 e685 => ?_)
  refine lv_aload_n hx hb dL_law_686 rfl (lv_at hl 0 rfl) ?_
  refine lv_iload_n hx hb dL_law_687 rfl (lv_at hl 3 rfl) ?_
  refine z_ic hx hb dL_law_688 (by decide) (fun v688 h688 => ?_)
  refine z_addE hx hb dL_law_689 (by omega) (fun v689 h689 => ?_)
  refine va_sld hx hb hX hbl hbA hS (z_in (by omega) (by omega)) dL_law_690 ?_
  refine lv_topi (fun y690 e690 => ?_)
  refine lv_aload_n hx hb dL_law_691 rfl (lv_at hl 0 rfl) ?_
  refine lv_iload_n hx hb dL_law_692 rfl (lv_at hl 3 rfl) ?_
  refine z_bi hx hb dL_law_693 (by decide) (fun v693 h693 => ?_)
  refine z_addE hx hb dL_law_695 (by omega) (fun v695 h695 => ?_)
  refine va_sld hx hb hX hbl hbA hS (z_in (by omega) (by omega)) dL_law_696 ?_
  refine lv_topi (fun y696 e696 => ?_)
  obtain ⟨_, _, k697, _, _⟩ := gg_GK hO1
  refine u_ci (z_rV (q0 := 0) (As := [.int y670, .int y675, .int y680, .int y685, .int y690, .int y696]) (rest := []) ⟨hx, hb, hml, hown, hts⟩ (c_X7_way l D cy a1 cnt B hJ1 y670 y675 y680 y685 y690 y696) (cwV 6 hts (g_V0 mw_614 mw_615 mw_616 mw_2 mw_617) rfl rfl rfl (by decide +kernel) ⟨Nat.le_of_ble_eq_true rfl, Nat.le_of_ble_eq_true rfl⟩) hK hN hO1 hP1 (by decide) k697 rfl rfl hl.1 rfl (Nat.le_of_ble_eq_true rfl) dL_law_697 ⟨by decide, by decide⟩) hS hg1 hap hP2 (fun r697 c1_697 H locs w697 hP1 hP2 hS => ?_)
  have hO1 := w697.1
  refine lv_pop hx hb dL_law_700 rfl ?_
  refine lv_aload_n hx hb dL_law_701 rfl (lv_at hl 2 rfl) ?_
  refine lv_aload_n hx hb dL_law_702 rfl (lv_at hl 0 rfl) ?_
  refine lv_iload_n hx hb dL_law_703 rfl (lv_at hl 3 rfl) ?_
  refine z_ic hx hb dL_law_704 (by decide) (fun v704 h704 => ?_)
  refine z_addE hx hb dL_law_705 (by omega) (fun v705 h705 => ?_)
  refine va_sld hx hb hX hbl hbA hS (z_in (by omega) (by omega)) dL_law_706 ?_
  refine lv_topi (fun y706 e706 => ?_)
  refine lv_aload_n hx hb dL_law_707 rfl (lv_at hl 0 rfl) ?_
  refine lv_iload_n hx hb dL_law_708 rfl (lv_at hl 3 rfl) ?_
  refine z_ic hx hb dL_law_709 (by decide) (fun v709 h709 => ?_)
  refine z_addE hx hb dL_law_710 (by omega) (fun v710 h710 => ?_)
  refine va_sld hx hb hX hbl hbA hS (z_in (by omega) (by omega)) dL_law_711 ?_
  refine lv_topi (fun y711 e711 => ?_)
  refine lv_aload_n hx hb dL_law_712 rfl (lv_at hl 0 rfl) ?_
  refine lv_iload_n hx hb dL_law_713 rfl (lv_at hl 3 rfl) ?_
  refine z_ic hx hb dL_law_714 (by decide) (fun v714 h714 => ?_)
  refine z_addE hx hb dL_law_715 (by omega) (fun v715 h715 => ?_)
  refine va_sld hx hb hX hbl hbA hS (z_in (by omega) (by omega)) dL_law_716 ?_
  refine lv_topi (fun y716 e716 => ?_)
  refine lv_aload_n hx hb dL_law_717 rfl (lv_at hl 0 rfl) ?_
  refine lv_iload_n hx hb dL_law_718 rfl (lv_at hl 3 rfl) ?_
  refine z_ic hx hb dL_law_719 (by decide) (fun v719 h719 => ?_)
  refine z_addE hx hb dL_law_720 (by omega) (fun v720 h720 => ?_)
  refine va_sld hx hb hX hbl hbA hS (z_in (by omega) (by omega)) dL_law_721 ?_
  refine lv_topi (fun y721 e721 => ?_)
  refine lv_aload_n hx hb dL_law_722 rfl (lv_at hl 0 rfl) ?_
  refine lv_iload_n hx hb dL_law_723 rfl (lv_at hl 3 rfl) ?_
  refine z_ic hx hb dL_law_724 (by decide) (fun v724 h724 => ?_)
  refine z_addE hx hb dL_law_725 (by omega) (fun v725 h725 => ?_)
  refine va_sld hx hb hX hbl hbA hS (z_in (by omega) (by omega)) dL_law_726 ?_
  refine lv_topi (fun y726 e726 => ?_)
  refine lv_aload_n hx hb dL_law_727 rfl (lv_at hl 0 rfl) ?_
  refine lv_iload_n hx hb dL_law_728 rfl (lv_at hl 3 rfl) ?_
  refine z_bi hx hb dL_law_729 (by decide) (fun v729 h729 => ?_)
  refine z_addE hx hb dL_law_731 (by omega) (fun v731 h731 => ?_)
  refine va_sld hx hb hX hbl hbA hS (z_in (by omega) (by omega)) dL_law_732 ?_
  refine lv_topi (fun y732 e732 => ?_)
  obtain ⟨_, _, _, _, _, _, _, _, _, _, _, _, _, _, _, _, k733, _, _, _, _, _, _, _, _, _, _, _, _, _, _, _, _, _, _, _, _, _, _⟩ := mg_Mo hO2
  refine u_ci (z_rV (q0 := 0) (As := [.int y706, .int y711, .int y716, .int y721, .int y726, .int y732]) (rest := []) ⟨hx, hb, hml, hown, hts⟩ (c_X8_way l D cy a2 cnt nd wn S By Ah hJ2 y706 y711 y716 y721 y726 y732) (cwV 6 hts (g_V0 mw_618 mw_619 mw_620 mw_324 mw_621) rfl rfl rfl (by decide +kernel) ⟨Nat.le_of_ble_eq_true rfl, Nat.le_of_ble_eq_true rfl⟩) hK hN hO2 hP2 (by decide) k733 rfl rfl hl.1 rfl (Nat.le_of_ble_eq_true rfl) dL_law_733 ⟨by decide, by decide⟩) hS hg2 hap2 hP1 (fun r733 c2_733 H locs w733 hP2 hP1 hS => ?_)
  obtain ⟨nd, wn, S, By, Ah, hO2⟩ := w733
  refine lv_pop hx hb dL_law_736 rfl ?_
  refine lv_goto (tgt := 1004) hx hb dL_law_737 (by decide) ?_
  exact kk _ _ ⟨cnt, _, _, (gOK_mono (by omega) hO1), ⟨_, _, _, _, _, hO2⟩, hP1, hP2⟩ hS
set_option maxHeartbeats 8000000 in
set_option maxRecDepth 100000 in
theorem lc_10 {p : Program} {l : Launch} {e : Env} {s : State} {m : MethodId} {below : List Frame} {meth : Method} {c : Code} {b L : Nat} {xs : Nat → Int32} {D : va_G} {cy : Nat → ClassId} {a1 a2 : Nat → Nat} {Q : State → Prop} (hL : L ≤ 4096) (C0 : lK p s m meth c b L xs D cy a1 a2) {B : Nat} (hB : 1 ≤ B ∧ B + 60 ≤ 1000000) {x3 : Int32} (hx3 : 0 ≤ x3.toInt ∧ x3.toInt + 8 ≤ (L : Int)) {H : Heap} {locs : List Loc} (hst : lS D cy a1 a2 B H) (hS : va_S (fun q : Nat => s.heap.size ≤ q) s.heap H locs) {ls : Array Slot} (hl : lv_has ls 4 [(0, .ref b), (1, .ref (a1 0)), (2, .ref (a2 0)), (3, .int x3)]) (kk : ∀ (H : Heap) (locs : List Loc), lS D cy a1 a2 (B + 60) H → va_S (fun q : Nat => s.heap.size ≤ q) s.heap H locs → W p l e room_1 s m #[Value.ref b] below meth c H locs 107 4467 Q (F0 m 1004 ls [])) : W p l e room_1 s m #[Value.ref b] below meth c H locs 107 4467 Q (F0 m 740 ls []) := by
  obtain ⟨⟨hx, hb, hr, hml, hown, hts, hX, hbl, hlocks, hgv⟩, hK, hN, hJ1, hJ2, hap, hg1, hg2⟩ := C0
  have hap2 : ∀ i j, i < 34 → j < 73 → a2 i ≠ a1 j := fun i j h1 h2 h3 => hap j i h2 h1 h3.symm
  have hts : ∀ w ∈ wsL_law, w.before #[Value.ref b] s = true := fun w h => hts w (wsL_law_in w h)
  have hbA : ¬ (fun q : Nat => s.heap.size ≤ q) b := Nat.not_le.mpr hbl
  obtain ⟨cnt, c1, c2, hO1, ⟨nd, wn, S, By, Ah, hO2⟩, hP1, hP2⟩ := hst
  refine lv_aload_n hx hb dL_law_740 rfl (lv_at hl 1 rfl) ?_
  refine lv_aload_n hx hb dL_law_741 rfl (lv_at hl 0 rfl) ?_
  refine lv_iload_n hx hb dL_law_742 rfl (lv_at hl 3 rfl) ?_
  refine z_ic hx hb dL_law_743 (by decide) (fun v743 h743 => ?_)
  refine z_addE hx hb dL_law_744 (by omega) (fun v744 h744 => ?_)
  refine va_sld hx hb hX hbl hbA hS (z_in (by omega) (by omega)) dL_law_745 ?_
  refine lv_topi (fun y745 e745 => ?_)
  refine lv_aload_n hx hb dL_law_746 rfl (lv_at hl 0 rfl) ?_
  refine lv_iload_n hx hb dL_law_747 rfl (lv_at hl 3 rfl) ?_
  refine z_ic hx hb dL_law_748 (by decide) (fun v748 h748 => ?_)
  refine z_addE hx hb dL_law_749 (by omega) (fun v749 h749 => ?_)
  refine va_sld hx hb hX hbl hbA hS (z_in (by omega) (by omega)) dL_law_750 ?_
  refine lv_topi (fun y750 e750 => ?_)
  obtain ⟨_, _, k751, _, _⟩ := gg_GK hO1
  refine u_ci (z_rV (q0 := 0) (As := [.int y745, .int y750]) (rest := []) ⟨hx, hb, hml, hown, hts⟩ (c_X7_bend l D cy a1 cnt B (fun _ => True) hJ1 y745 y750) (cwV 2 hts (g_V0 mw_622 mw_623 mw_624 mw_2 mw_625) rfl rfl rfl (by decide +kernel) ⟨Nat.le_of_ble_eq_true rfl, Nat.le_of_ble_eq_true rfl⟩) hK hN ⟨hO1, trivial⟩ hP1 (by decide) k751 rfl rfl hl.1 rfl (Nat.le_of_ble_eq_true rfl) dL_law_751 ⟨by decide, by decide⟩) hS hg1 hap hP2 (fun r751 c1_751 H locs w751 hP1 hP2 hS => ?_)
  have hO1 := w751.1.1
  refine lv_pop hx hb dL_law_754 rfl ?_
  refine lv_aload_n hx hb dL_law_755 rfl (lv_at hl 2 rfl) ?_
  refine lv_aload_n hx hb dL_law_756 rfl (lv_at hl 0 rfl) ?_
  refine lv_iload_n hx hb dL_law_757 rfl (lv_at hl 3 rfl) ?_
  refine z_ic hx hb dL_law_758 (by decide) (fun v758 h758 => ?_)
  refine z_addE hx hb dL_law_759 (by omega) (fun v759 h759 => ?_)
  refine va_sld hx hb hX hbl hbA hS (z_in (by omega) (by omega)) dL_law_760 ?_
  refine lv_topi (fun y760 e760 => ?_)
  refine lv_aload_n hx hb dL_law_761 rfl (lv_at hl 0 rfl) ?_
  refine lv_iload_n hx hb dL_law_762 rfl (lv_at hl 3 rfl) ?_
  refine z_ic hx hb dL_law_763 (by decide) (fun v763 h763 => ?_)
  refine z_addE hx hb dL_law_764 (by omega) (fun v764 h764 => ?_)
  refine va_sld hx hb hX hbl hbA hS (z_in (by omega) (by omega)) dL_law_765 ?_
  refine lv_topi (fun y765 e765 => ?_)
  obtain ⟨_, _, _, _, _, _, _, _, _, _, _, _, _, _, _, _, k766, _, _, _, _, _, _, _, _, _, _, _, _, _, _, _, _, _, _, _, _, _, _⟩ := mg_Mo hO2
  refine u_ci (z_rV (q0 := 0) (As := [.int y760, .int y765]) (rest := []) ⟨hx, hb, hml, hown, hts⟩ (c_X8_bend l D cy a2 cnt nd wn S By Ah (fun _ => True) hJ2 y760 y765) (cwV 2 hts (g_V0 mw_626 mw_627 mw_628 mw_324 mw_629) rfl rfl rfl (by decide +kernel) ⟨Nat.le_of_ble_eq_true rfl, Nat.le_of_ble_eq_true rfl⟩) hK hN ⟨hO2, trivial⟩ hP2 (by decide) k766 rfl rfl hl.1 rfl (Nat.le_of_ble_eq_true rfl) dL_law_766 ⟨by decide, by decide⟩) hS hg2 hap2 hP1 (fun r766 c2_766 H locs w766 hP2 hP1 hS => ?_)
  have hO2 := w766.1.1
  refine lv_pop hx hb dL_law_769 rfl ?_
  refine lv_goto (tgt := 1004) hx hb dL_law_770 (by decide) ?_
  exact kk _ _ ⟨cnt, _, _, (gOK_mono (by omega) hO1), ⟨_, _, _, _, _, hO2⟩, hP1, hP2⟩ hS
set_option maxHeartbeats 8000000 in
set_option maxRecDepth 100000 in
theorem lc_11 {p : Program} {l : Launch} {e : Env} {s : State} {m : MethodId} {below : List Frame} {meth : Method} {c : Code} {b L : Nat} {xs : Nat → Int32} {D : va_G} {cy : Nat → ClassId} {a1 a2 : Nat → Nat} {Q : State → Prop} (hL : L ≤ 4096) (C0 : lK p s m meth c b L xs D cy a1 a2) {B : Nat} (hB : 1 ≤ B ∧ B + 60 ≤ 1000000) {x3 : Int32} (hx3 : 0 ≤ x3.toInt ∧ x3.toInt + 8 ≤ (L : Int)) {H : Heap} {locs : List Loc} (hst : lS D cy a1 a2 B H) (hS : va_S (fun q : Nat => s.heap.size ≤ q) s.heap H locs) {ls : Array Slot} (hl : lv_has ls 4 [(0, .ref b), (1, .ref (a1 0)), (2, .ref (a2 0)), (3, .int x3)]) (kk : ∀ (H : Heap) (locs : List Loc), lS D cy a1 a2 (B + 60) H → va_S (fun q : Nat => s.heap.size ≤ q) s.heap H locs → W p l e room_1 s m #[Value.ref b] below meth c H locs 107 4467 Q (F0 m 1004 ls [])) : W p l e room_1 s m #[Value.ref b] below meth c H locs 107 4467 Q (F0 m 773 ls []) := by
  obtain ⟨⟨hx, hb, hr, hml, hown, hts, hX, hbl, hlocks, hgv⟩, hK, hN, hJ1, hJ2, hap, hg1, hg2⟩ := C0
  have hap2 : ∀ i j, i < 34 → j < 73 → a2 i ≠ a1 j := fun i j h1 h2 h3 => hap j i h2 h1 h3.symm
  have hts : ∀ w ∈ wsL_law, w.before #[Value.ref b] s = true := fun w h => hts w (wsL_law_in w h)
  have hbA : ¬ (fun q : Nat => s.heap.size ≤ q) b := Nat.not_le.mpr hbl
  obtain ⟨cnt, c1, c2, hO1, ⟨nd, wn, S, By, Ah, hO2⟩, hP1, hP2⟩ := hst
  refine lv_aload_n hx hb dL_law_773 rfl (lv_at hl 1 rfl) ?_
  refine lv_aload_n hx hb dL_law_774 rfl (lv_at hl 0 rfl) ?_
  refine lv_iload_n hx hb dL_law_775 rfl (lv_at hl 3 rfl) ?_
  refine z_ic hx hb dL_law_776 (by decide) (fun v776 h776 => ?_)
  refine z_addE hx hb dL_law_777 (by omega) (fun v777 h777 => ?_)
  refine va_sld hx hb hX hbl hbA hS (z_in (by omega) (by omega)) dL_law_778 ?_
  refine lv_topi (fun y778 e778 => ?_)
  refine lv_aload_n hx hb dL_law_779 rfl (lv_at hl 0 rfl) ?_
  refine lv_iload_n hx hb dL_law_780 rfl (lv_at hl 3 rfl) ?_
  refine z_ic hx hb dL_law_781 (by decide) (fun v781 h781 => ?_)
  refine z_addE hx hb dL_law_782 (by omega) (fun v782 h782 => ?_)
  refine va_sld hx hb hX hbl hbA hS (z_in (by omega) (by omega)) dL_law_783 ?_
  refine lv_topi (fun y783 e783 => ?_)
  refine lv_aload_n hx hb dL_law_784 rfl (lv_at hl 0 rfl) ?_
  refine lv_iload_n hx hb dL_law_785 rfl (lv_at hl 3 rfl) ?_
  refine z_ic hx hb dL_law_786 (by decide) (fun v786 h786 => ?_)
  refine z_addE hx hb dL_law_787 (by omega) (fun v787 h787 => ?_)
  refine va_sld hx hb hX hbl hbA hS (z_in (by omega) (by omega)) dL_law_788 ?_
  refine lv_topi (fun y788 e788 => ?_)
  obtain ⟨_, _, k789, _, _⟩ := gg_GK hO1
  refine u_ci (z_rV (q0 := 0) (As := [.int y778, .int y783, .int y788]) (rest := []) ⟨hx, hb, hml, hown, hts⟩ (c_X7_reach l D cy a1 cnt B hJ1 y778 y783 y788) (cwV 3 hts (g_V0 mw_630 mw_631 mw_632 mw_2 mw_633) rfl rfl rfl (by decide +kernel) ⟨Nat.le_of_ble_eq_true rfl, Nat.le_of_ble_eq_true rfl⟩) hK hN hO1 hP1 (by decide) k789 rfl rfl hl.1 rfl (Nat.le_of_ble_eq_true rfl) dL_law_789 ⟨by decide, by decide⟩) hS hg1 hap hP2 (fun r789 c1_789 H locs w789 hP1 hP2 hS => ?_)
  have hO1 := w789.1
  refine lv_pop hx hb dL_law_792 rfl ?_
  refine lv_aload_n hx hb dL_law_793 rfl (lv_at hl 2 rfl) ?_
  refine lv_aload_n hx hb dL_law_794 rfl (lv_at hl 0 rfl) ?_
  refine lv_iload_n hx hb dL_law_795 rfl (lv_at hl 3 rfl) ?_
  refine z_ic hx hb dL_law_796 (by decide) (fun v796 h796 => ?_)
  refine z_addE hx hb dL_law_797 (by omega) (fun v797 h797 => ?_)
  refine va_sld hx hb hX hbl hbA hS (z_in (by omega) (by omega)) dL_law_798 ?_
  refine lv_topi (fun y798 e798 => ?_)
  refine lv_aload_n hx hb dL_law_799 rfl (lv_at hl 0 rfl) ?_
  refine lv_iload_n hx hb dL_law_800 rfl (lv_at hl 3 rfl) ?_
  refine z_ic hx hb dL_law_801 (by decide) (fun v801 h801 => ?_)
  refine z_addE hx hb dL_law_802 (by omega) (fun v802 h802 => ?_)
  refine va_sld hx hb hX hbl hbA hS (z_in (by omega) (by omega)) dL_law_803 ?_
  refine lv_topi (fun y803 e803 => ?_)
  refine lv_aload_n hx hb dL_law_804 rfl (lv_at hl 0 rfl) ?_
  refine lv_iload_n hx hb dL_law_805 rfl (lv_at hl 3 rfl) ?_
  refine z_ic hx hb dL_law_806 (by decide) (fun v806 h806 => ?_)
  refine z_addE hx hb dL_law_807 (by omega) (fun v807 h807 => ?_)
  refine va_sld hx hb hX hbl hbA hS (z_in (by omega) (by omega)) dL_law_808 ?_
  refine lv_topi (fun y808 e808 => ?_)
  obtain ⟨_, _, _, _, _, _, _, _, _, _, _, _, _, _, _, _, k809, _, _, _, _, _, _, _, _, _, _, _, _, _, _, _, _, _, _, _, _, _, _⟩ := mg_Mo hO2
  refine u_ci (z_rV (q0 := 0) (As := [.int y798, .int y803, .int y808]) (rest := []) ⟨hx, hb, hml, hown, hts⟩ (c_X8_reach l D cy a2 cnt nd wn S By Ah hJ2 y798 y803 y808) (cwV 3 hts (g_V0 mw_634 mw_635 mw_636 mw_324 mw_637) rfl rfl rfl (by decide +kernel) ⟨Nat.le_of_ble_eq_true rfl, Nat.le_of_ble_eq_true rfl⟩) hK hN hO2 hP2 (by decide) k809 rfl rfl hl.1 rfl (Nat.le_of_ble_eq_true rfl) dL_law_809 ⟨by decide, by decide⟩) hS hg2 hap2 hP1 (fun r809 c2_809 H locs w809 hP2 hP1 hS => ?_)
  obtain ⟨nd, wn, S, By, Ah, hO2⟩ := w809
  refine lv_pop hx hb dL_law_812 rfl ?_
  refine lv_goto (tgt := 1004) hx hb dL_law_813 (by decide) ?_
  exact kk _ _ ⟨cnt, _, _, (gOK_mono (by omega) hO1), ⟨_, _, _, _, _, hO2⟩, hP1, hP2⟩ hS
set_option maxHeartbeats 8000000 in
set_option maxRecDepth 100000 in
theorem lc_12 {p : Program} {l : Launch} {e : Env} {s : State} {m : MethodId} {below : List Frame} {meth : Method} {c : Code} {b L : Nat} {xs : Nat → Int32} {D : va_G} {cy : Nat → ClassId} {a1 a2 : Nat → Nat} {Q : State → Prop} (hL : L ≤ 4096) (C0 : lK p s m meth c b L xs D cy a1 a2) {B : Nat} (hB : 1 ≤ B ∧ B + 60 ≤ 1000000) {x3 : Int32} (hx3 : 0 ≤ x3.toInt ∧ x3.toInt + 8 ≤ (L : Int)) {H : Heap} {locs : List Loc} (hst : lS D cy a1 a2 B H) (hS : va_S (fun q : Nat => s.heap.size ≤ q) s.heap H locs) {ls : Array Slot} (hl : lv_has ls 4 [(0, .ref b), (1, .ref (a1 0)), (2, .ref (a2 0)), (3, .int x3)]) (kk : ∀ (H : Heap) (locs : List Loc), lS D cy a1 a2 (B + 60) H → va_S (fun q : Nat => s.heap.size ≤ q) s.heap H locs → W p l e room_1 s m #[Value.ref b] below meth c H locs 107 4467 Q (F0 m 1004 ls [])) : W p l e room_1 s m #[Value.ref b] below meth c H locs 107 4467 Q (F0 m 816 ls []) := by
  obtain ⟨⟨hx, hb, hr, hml, hown, hts, hX, hbl, hlocks, hgv⟩, hK, hN, hJ1, hJ2, hap, hg1, hg2⟩ := C0
  have hap2 : ∀ i j, i < 34 → j < 73 → a2 i ≠ a1 j := fun i j h1 h2 h3 => hap j i h2 h1 h3.symm
  have hts : ∀ w ∈ wsL_law, w.before #[Value.ref b] s = true := fun w h => hts w (wsL_law_in w h)
  have hbA : ¬ (fun q : Nat => s.heap.size ≤ q) b := Nat.not_le.mpr hbl
  obtain ⟨cnt, c1, c2, hO1, ⟨nd, wn, S, By, Ah, hO2⟩, hP1, hP2⟩ := hst
  refine lv_aload_n hx hb dL_law_816 rfl (lv_at hl 1 rfl) ?_
  refine lv_aload_n hx hb dL_law_817 rfl (lv_at hl 0 rfl) ?_
  refine lv_iload_n hx hb dL_law_818 rfl (lv_at hl 3 rfl) ?_
  refine z_ic hx hb dL_law_819 (by decide) (fun v819 h819 => ?_)
  refine z_addE hx hb dL_law_820 (by omega) (fun v820 h820 => ?_)
  refine va_sld hx hb hX hbl hbA hS (z_in (by omega) (by omega)) dL_law_821 ?_
  refine lv_topi (fun y821 e821 => ?_)
  refine lv_aload_n hx hb dL_law_822 rfl (lv_at hl 0 rfl) ?_
  refine lv_iload_n hx hb dL_law_823 rfl (lv_at hl 3 rfl) ?_
  refine z_ic hx hb dL_law_824 (by decide) (fun v824 h824 => ?_)
  refine z_addE hx hb dL_law_825 (by omega) (fun v825 h825 => ?_)
  refine va_sld hx hb hX hbl hbA hS (z_in (by omega) (by omega)) dL_law_826 ?_
  refine lv_topi (fun y826 e826 => ?_)
  refine lv_aload_n hx hb dL_law_827 rfl (lv_at hl 0 rfl) ?_
  refine lv_iload_n hx hb dL_law_828 rfl (lv_at hl 3 rfl) ?_
  refine z_ic hx hb dL_law_829 (by decide) (fun v829 h829 => ?_)
  refine z_addE hx hb dL_law_830 (by omega) (fun v830 h830 => ?_)
  refine va_sld hx hb hX hbl hbA hS (z_in (by omega) (by omega)) dL_law_831 ?_
  refine lv_topi (fun y831 e831 => ?_)
  obtain ⟨_, _, k832, _, _⟩ := gg_GK hO1
  refine u_ci (z_rV (q0 := 0) (As := [.int y821, .int y826, .int y831]) (rest := []) ⟨hx, hb, hml, hown, hts⟩ (c_X7_walker l D cy a1 cnt B hJ1 y821 y826 y831) (cwV 3 hts (g_V0 mw_638 mw_639 mw_640 mw_2 mw_641) rfl rfl rfl (by decide +kernel) ⟨Nat.le_of_ble_eq_true rfl, Nat.le_of_ble_eq_true rfl⟩) hK hN hO1 hP1 (by decide) k832 rfl rfl hl.1 rfl (Nat.le_of_ble_eq_true rfl) dL_law_832 ⟨by decide, by decide⟩) hS hg1 hap hP2 (fun r832 c1_832 H locs w832 hP1 hP2 hS => ?_)
  have hO1 := w832.1
  refine lv_pop hx hb dL_law_835 rfl ?_
  refine lv_aload_n hx hb dL_law_836 rfl (lv_at hl 2 rfl) ?_
  refine lv_aload_n hx hb dL_law_837 rfl (lv_at hl 0 rfl) ?_
  refine lv_iload_n hx hb dL_law_838 rfl (lv_at hl 3 rfl) ?_
  refine z_ic hx hb dL_law_839 (by decide) (fun v839 h839 => ?_)
  refine z_addE hx hb dL_law_840 (by omega) (fun v840 h840 => ?_)
  refine va_sld hx hb hX hbl hbA hS (z_in (by omega) (by omega)) dL_law_841 ?_
  refine lv_topi (fun y841 e841 => ?_)
  refine lv_aload_n hx hb dL_law_842 rfl (lv_at hl 0 rfl) ?_
  refine lv_iload_n hx hb dL_law_843 rfl (lv_at hl 3 rfl) ?_
  refine z_ic hx hb dL_law_844 (by decide) (fun v844 h844 => ?_)
  refine z_addE hx hb dL_law_845 (by omega) (fun v845 h845 => ?_)
  refine va_sld hx hb hX hbl hbA hS (z_in (by omega) (by omega)) dL_law_846 ?_
  refine lv_topi (fun y846 e846 => ?_)
  refine lv_aload_n hx hb dL_law_847 rfl (lv_at hl 0 rfl) ?_
  refine lv_iload_n hx hb dL_law_848 rfl (lv_at hl 3 rfl) ?_
  refine z_ic hx hb dL_law_849 (by decide) (fun v849 h849 => ?_)
  refine z_addE hx hb dL_law_850 (by omega) (fun v850 h850 => ?_)
  refine va_sld hx hb hX hbl hbA hS (z_in (by omega) (by omega)) dL_law_851 ?_
  refine lv_topi (fun y851 e851 => ?_)
  obtain ⟨_, _, _, _, _, _, _, _, _, _, _, _, _, _, _, _, k852, _, _, _, _, _, _, _, _, _, _, _, _, _, _, _, _, _, _, _, _, _, _⟩ := mg_Mo hO2
  refine u_ci (z_rV (q0 := 0) (As := [.int y841, .int y846, .int y851]) (rest := []) ⟨hx, hb, hml, hown, hts⟩ (c_X8_walker l D cy a2 cnt nd wn S By Ah hJ2 y841 y846 y851) (cwV 3 hts (g_V0 mw_642 mw_643 mw_644 mw_324 mw_645) rfl rfl rfl (by decide +kernel) ⟨Nat.le_of_ble_eq_true rfl, Nat.le_of_ble_eq_true rfl⟩) hK hN hO2 hP2 (by decide) k852 rfl rfl hl.1 rfl (Nat.le_of_ble_eq_true rfl) dL_law_852 ⟨by decide, by decide⟩) hS hg2 hap2 hP1 (fun r852 c2_852 H locs w852 hP2 hP1 hS => ?_)
  have hO2 := w852.1
  refine lv_pop hx hb dL_law_855 rfl ?_
  refine lv_goto (tgt := 1004) hx hb dL_law_856 (by decide) ?_
  exact kk _ _ ⟨cnt, _, _, (gOK_mono (by omega) hO1), ⟨_, _, _, _, _, hO2⟩, hP1, hP2⟩ hS
set_option maxHeartbeats 8000000 in
set_option maxRecDepth 100000 in
theorem lc_13 {p : Program} {l : Launch} {e : Env} {s : State} {m : MethodId} {below : List Frame} {meth : Method} {c : Code} {b L : Nat} {xs : Nat → Int32} {D : va_G} {cy : Nat → ClassId} {a1 a2 : Nat → Nat} {Q : State → Prop} (hL : L ≤ 4096) (C0 : lK p s m meth c b L xs D cy a1 a2) {B : Nat} (hB : 1 ≤ B ∧ B + 60 ≤ 1000000) {x3 : Int32} (hx3 : 0 ≤ x3.toInt ∧ x3.toInt + 8 ≤ (L : Int)) {H : Heap} {locs : List Loc} (hst : lS D cy a1 a2 B H) (hS : va_S (fun q : Nat => s.heap.size ≤ q) s.heap H locs) {ls : Array Slot} (hl : lv_has ls 4 [(0, .ref b), (1, .ref (a1 0)), (2, .ref (a2 0)), (3, .int x3)]) (kk : ∀ (H : Heap) (locs : List Loc), lS D cy a1 a2 (B + 60) H → va_S (fun q : Nat => s.heap.size ≤ q) s.heap H locs → W p l e room_1 s m #[Value.ref b] below meth c H locs 107 4467 Q (F0 m 1004 ls [])) : W p l e room_1 s m #[Value.ref b] below meth c H locs 107 4467 Q (F0 m 859 ls []) := by
  obtain ⟨⟨hx, hb, hr, hml, hown, hts, hX, hbl, hlocks, hgv⟩, hK, hN, hJ1, hJ2, hap, hg1, hg2⟩ := C0
  have hap2 : ∀ i j, i < 34 → j < 73 → a2 i ≠ a1 j := fun i j h1 h2 h3 => hap j i h2 h1 h3.symm
  have hts : ∀ w ∈ wsL_law, w.before #[Value.ref b] s = true := fun w h => hts w (wsL_law_in w h)
  have hbA : ¬ (fun q : Nat => s.heap.size ≤ q) b := Nat.not_le.mpr hbl
  obtain ⟨cnt, c1, c2, hO1, ⟨nd, wn, S, By, Ah, hO2⟩, hP1, hP2⟩ := hst
  refine lv_aload_n hx hb dL_law_859 rfl (lv_at hl 1 rfl) ?_
  refine lv_aload_n hx hb dL_law_860 rfl (lv_at hl 0 rfl) ?_
  refine lv_iload_n hx hb dL_law_861 rfl (lv_at hl 3 rfl) ?_
  refine z_ic hx hb dL_law_862 (by decide) (fun v862 h862 => ?_)
  refine z_addE hx hb dL_law_863 (by omega) (fun v863 h863 => ?_)
  refine va_sld hx hb hX hbl hbA hS (z_in (by omega) (by omega)) dL_law_864 ?_
  refine lv_topi (fun y864 e864 => ?_)
  refine lv_aload_n hx hb dL_law_865 rfl (lv_at hl 0 rfl) ?_
  refine lv_iload_n hx hb dL_law_866 rfl (lv_at hl 3 rfl) ?_
  refine z_ic hx hb dL_law_867 (by decide) (fun v867 h867 => ?_)
  refine z_addE hx hb dL_law_868 (by omega) (fun v868 h868 => ?_)
  refine va_sld hx hb hX hbl hbA hS (z_in (by omega) (by omega)) dL_law_869 ?_
  refine lv_topi (fun y869 e869 => ?_)
  refine lv_aload_n hx hb dL_law_870 rfl (lv_at hl 0 rfl) ?_
  refine lv_iload_n hx hb dL_law_871 rfl (lv_at hl 3 rfl) ?_
  refine z_ic hx hb dL_law_872 (by decide) (fun v872 h872 => ?_)
  refine z_addE hx hb dL_law_873 (by omega) (fun v873 h873 => ?_)
  refine va_sld hx hb hX hbl hbA hS (z_in (by omega) (by omega)) dL_law_874 ?_
  refine lv_topi (fun y874 e874 => ?_)
  refine lv_aload_n hx hb dL_law_875 rfl (lv_at hl 0 rfl) ?_
  refine lv_iload_n hx hb dL_law_876 rfl (lv_at hl 3 rfl) ?_
  refine z_ic hx hb dL_law_877 (by decide) (fun v877 h877 => ?_)
  refine z_addE hx hb dL_law_878 (by omega) (fun v878 h878 => ?_)
  refine va_sld hx hb hX hbl hbA hS (z_in (by omega) (by omega)) dL_law_879 ?_
  refine lv_topi (fun y879 e879 => ?_)
  obtain ⟨_, _, k880, _, _⟩ := gg_GK hO1
  refine u_ci (z_rV (q0 := 0) (As := [.int y864, .int y869, .int y874, .int y879]) (rest := []) ⟨hx, hb, hml, hown, hts⟩ (c_X7_go l D cy a1 cnt B hJ1 (by omega) y864 y869 y874 y879) (cwV 4 hts (g_V0 mw_646 mw_647 mw_648 mw_2 mw_649) rfl rfl rfl (by decide +kernel) ⟨Nat.le_of_ble_eq_true rfl, Nat.le_of_ble_eq_true rfl⟩) hK hN hO1 hP1 (by decide) k880 rfl rfl hl.1 rfl (Nat.le_of_ble_eq_true rfl) dL_law_880 ⟨by decide, by decide⟩) hS hg1 hap hP2 (fun r880 c1_880 H locs w880 hP1 hP2 hS => ?_)
  have hO1 := w880.1
  refine lv_pop hx hb dL_law_883 rfl ?_
  refine lv_aload_n hx hb dL_law_884 rfl (lv_at hl 2 rfl) ?_
  refine lv_aload_n hx hb dL_law_885 rfl (lv_at hl 0 rfl) ?_
  refine lv_iload_n hx hb dL_law_886 rfl (lv_at hl 3 rfl) ?_
  refine z_ic hx hb dL_law_887 (by decide) (fun v887 h887 => ?_)
  refine z_addE hx hb dL_law_888 (by omega) (fun v888 h888 => ?_)
  refine va_sld hx hb hX hbl hbA hS (z_in (by omega) (by omega)) dL_law_889 ?_
  refine lv_topi (fun y889 e889 => ?_)
  refine lv_aload_n hx hb dL_law_890 rfl (lv_at hl 0 rfl) ?_
  refine lv_iload_n hx hb dL_law_891 rfl (lv_at hl 3 rfl) ?_
  refine z_ic hx hb dL_law_892 (by decide) (fun v892 h892 => ?_)
  refine z_addE hx hb dL_law_893 (by omega) (fun v893 h893 => ?_)
  refine va_sld hx hb hX hbl hbA hS (z_in (by omega) (by omega)) dL_law_894 ?_
  refine lv_topi (fun y894 e894 => ?_)
  refine lv_aload_n hx hb dL_law_895 rfl (lv_at hl 0 rfl) ?_
  refine lv_iload_n hx hb dL_law_896 rfl (lv_at hl 3 rfl) ?_
  refine z_ic hx hb dL_law_897 (by decide) (fun v897 h897 => ?_)
  refine z_addE hx hb dL_law_898 (by omega) (fun v898 h898 => ?_)
  refine va_sld hx hb hX hbl hbA hS (z_in (by omega) (by omega)) dL_law_899 ?_
  refine lv_topi (fun y899 e899 => ?_)
  refine lv_aload_n hx hb dL_law_900 rfl (lv_at hl 0 rfl) ?_
  refine lv_iload_n hx hb dL_law_901 rfl (lv_at hl 3 rfl) ?_
  refine z_ic hx hb dL_law_902 (by decide) (fun v902 h902 => ?_)
  refine z_addE hx hb dL_law_903 (by omega) (fun v903 h903 => ?_)
  refine va_sld hx hb hX hbl hbA hS (z_in (by omega) (by omega)) dL_law_904 ?_
  refine lv_topi (fun y904 e904 => ?_)
  obtain ⟨_, _, _, _, _, _, _, _, _, _, _, _, _, _, _, _, k905, _, _, _, _, _, _, _, _, _, _, _, _, _, _, _, _, _, _, _, _, _, _⟩ := mg_Mo hO2
  refine u_ci (z_rV (q0 := 0) (As := [.int y889, .int y894, .int y899, .int y904]) (rest := []) ⟨hx, hb, hml, hown, hts⟩ (c_X8_go l D cy a2 cnt nd wn S By Ah hJ2 y889 y894 y899 y904) (cwV 4 hts (g_V0 mw_650 mw_651 mw_652 mw_324 mw_653) rfl rfl rfl (by decide +kernel) ⟨Nat.le_of_ble_eq_true rfl, Nat.le_of_ble_eq_true rfl⟩) hK hN hO2 hP2 (by decide) k905 rfl rfl hl.1 rfl (Nat.le_of_ble_eq_true rfl) dL_law_905 ⟨by decide, by decide⟩) hS hg2 hap2 hP1 (fun r905 c2_905 H locs w905 hP2 hP1 hS => ?_)
  obtain ⟨nd, wn, S, By, Ah, hO2⟩ := w905
  refine lv_pop hx hb dL_law_908 rfl ?_
  refine lv_goto (tgt := 1004) hx hb dL_law_909 (by decide) ?_
  exact kk _ _ ⟨cnt, _, _, (gOK_mono (by omega) hO1), ⟨_, _, _, _, _, hO2⟩, hP1, hP2⟩ hS
set_option maxHeartbeats 8000000 in
set_option maxRecDepth 100000 in
theorem lc_14 {p : Program} {l : Launch} {e : Env} {s : State} {m : MethodId} {below : List Frame} {meth : Method} {c : Code} {b L : Nat} {xs : Nat → Int32} {D : va_G} {cy : Nat → ClassId} {a1 a2 : Nat → Nat} {Q : State → Prop} (hL : L ≤ 4096) (C0 : lK p s m meth c b L xs D cy a1 a2) {B : Nat} (hB : 1 ≤ B ∧ B + 60 ≤ 1000000) {x3 : Int32} (hx3 : 0 ≤ x3.toInt ∧ x3.toInt + 8 ≤ (L : Int)) {H : Heap} {locs : List Loc} (hst : lS D cy a1 a2 B H) (hS : va_S (fun q : Nat => s.heap.size ≤ q) s.heap H locs) {ls : Array Slot} (hl : lv_has ls 4 [(0, .ref b), (1, .ref (a1 0)), (2, .ref (a2 0)), (3, .int x3)]) (kk : ∀ (H : Heap) (locs : List Loc), lS D cy a1 a2 (B + 60) H → va_S (fun q : Nat => s.heap.size ≤ q) s.heap H locs → W p l e room_1 s m #[Value.ref b] below meth c H locs 107 4467 Q (F0 m 1004 ls [])) : W p l e room_1 s m #[Value.ref b] below meth c H locs 107 4467 Q (F0 m 912 ls []) := by
  obtain ⟨⟨hx, hb, hr, hml, hown, hts, hX, hbl, hlocks, hgv⟩, hK, hN, hJ1, hJ2, hap, hg1, hg2⟩ := C0
  have hap2 : ∀ i j, i < 34 → j < 73 → a2 i ≠ a1 j := fun i j h1 h2 h3 => hap j i h2 h1 h3.symm
  have hts : ∀ w ∈ wsL_law, w.before #[Value.ref b] s = true := fun w h => hts w (wsL_law_in w h)
  have hbA : ¬ (fun q : Nat => s.heap.size ≤ q) b := Nat.not_le.mpr hbl
  obtain ⟨cnt, c1, c2, hO1, ⟨nd, wn, S, By, Ah, hO2⟩, hP1, hP2⟩ := hst
  refine lv_aload_n hx hb dL_law_912 rfl (lv_at hl 1 rfl) ?_
  refine lv_aload_n hx hb dL_law_913 rfl (lv_at hl 0 rfl) ?_
  refine lv_iload_n hx hb dL_law_914 rfl (lv_at hl 3 rfl) ?_
  refine z_ic hx hb dL_law_915 (by decide) (fun v915 h915 => ?_)
  refine z_addE hx hb dL_law_916 (by omega) (fun v916 h916 => ?_)
  refine va_sld hx hb hX hbl hbA hS (z_in (by omega) (by omega)) dL_law_917 ?_
  refine lv_topi (fun y917 e917 => ?_)
  obtain ⟨_, _, k918, _, _⟩ := gg_GK hO1
  refine u_ci (z_rV (q0 := 0) (As := [.int y917]) (rest := []) ⟨hx, hb, hml, hown, hts⟩ (c_X7_tick l D cy a1 cnt B hJ1 (by omega) y917) (cwV 1 hts (g_V0 mw_654 mw_655 mw_656 mw_2 mw_657) rfl rfl rfl (by decide +kernel) ⟨Nat.le_of_ble_eq_true rfl, Nat.le_of_ble_eq_true rfl⟩) hK hN hO1 hP1 (by decide) k918 rfl rfl hl.1 rfl (Nat.le_of_ble_eq_true rfl) dL_law_918 ⟨by decide, by decide⟩) hS hg1 hap hP2 (fun r918 c1_918 H locs w918 hP1 hP2 hS => ?_)
  have hO1 := w918.1
  refine lv_pop hx hb dL_law_921 rfl ?_
  refine lv_aload_n hx hb dL_law_922 rfl (lv_at hl 2 rfl) ?_
  refine lv_aload_n hx hb dL_law_923 rfl (lv_at hl 0 rfl) ?_
  refine lv_iload_n hx hb dL_law_924 rfl (lv_at hl 3 rfl) ?_
  refine z_ic hx hb dL_law_925 (by decide) (fun v925 h925 => ?_)
  refine z_addE hx hb dL_law_926 (by omega) (fun v926 h926 => ?_)
  refine va_sld hx hb hX hbl hbA hS (z_in (by omega) (by omega)) dL_law_927 ?_
  refine lv_topi (fun y927 e927 => ?_)
  obtain ⟨_, _, _, _, _, _, _, _, _, _, _, _, _, _, _, _, k928, _, _, _, _, _, _, _, _, _, _, _, _, _, _, _, _, _, _, _, _, _, _⟩ := mg_Mo hO2
  refine u_ci (z_rV (q0 := 0) (As := [.int y927]) (rest := []) ⟨hx, hb, hml, hown, hts⟩ (c_X8_tick l D cy a2 cnt nd wn S By Ah hJ2 y927) (cwV 1 hts (g_V0 mw_658 mw_659 mw_660 mw_324 mw_661) rfl rfl rfl (by decide +kernel) ⟨Nat.le_of_ble_eq_true rfl, Nat.le_of_ble_eq_true rfl⟩) hK hN hO2 hP2 (by decide) k928 rfl rfl hl.1 rfl (Nat.le_of_ble_eq_true rfl) dL_law_928 ⟨by decide, by decide⟩) hS hg2 hap2 hP1 (fun r928 c2_928 H locs w928 hP2 hP1 hS => ?_)
  obtain ⟨nd, wn, S, By, Ah, hO2⟩ := w928
  refine lv_pop hx hb dL_law_931 rfl ?_
  refine lv_goto (tgt := 1004) hx hb dL_law_932 (by decide) ?_
  exact kk _ _ ⟨cnt, _, _, hO1, ⟨_, _, _, _, _, hO2⟩, hP1, hP2⟩ hS
set_option maxHeartbeats 8000000 in
set_option maxRecDepth 100000 in
theorem lc_15 {p : Program} {l : Launch} {e : Env} {s : State} {m : MethodId} {below : List Frame} {meth : Method} {c : Code} {b L : Nat} {xs : Nat → Int32} {D : va_G} {cy : Nat → ClassId} {a1 a2 : Nat → Nat} {Q : State → Prop} (hL : L ≤ 4096) (C0 : lK p s m meth c b L xs D cy a1 a2) {B : Nat} (hB : 1 ≤ B ∧ B + 60 ≤ 1000000) {x3 : Int32} (hx3 : 0 ≤ x3.toInt ∧ x3.toInt + 8 ≤ (L : Int)) {H : Heap} {locs : List Loc} (hst : lS D cy a1 a2 B H) (hS : va_S (fun q : Nat => s.heap.size ≤ q) s.heap H locs) {ls : Array Slot} (hl : lv_has ls 4 [(0, .ref b), (1, .ref (a1 0)), (2, .ref (a2 0)), (3, .int x3)]) (kk : ∀ (H : Heap) (locs : List Loc), lS D cy a1 a2 (B + 60) H → va_S (fun q : Nat => s.heap.size ≤ q) s.heap H locs → W p l e room_1 s m #[Value.ref b] below meth c H locs 107 4467 Q (F0 m 1004 ls [])) : W p l e room_1 s m #[Value.ref b] below meth c H locs 107 4467 Q (F0 m 935 ls []) := by
  obtain ⟨⟨hx, hb, hr, hml, hown, hts, hX, hbl, hlocks, hgv⟩, hK, hN, hJ1, hJ2, hap, hg1, hg2⟩ := C0
  have hap2 : ∀ i j, i < 34 → j < 73 → a2 i ≠ a1 j := fun i j h1 h2 h3 => hap j i h2 h1 h3.symm
  have hts : ∀ w ∈ wsL_law, w.before #[Value.ref b] s = true := fun w h => hts w (wsL_law_in w h)
  have hbA : ¬ (fun q : Nat => s.heap.size ≤ q) b := Nat.not_le.mpr hbl
  obtain ⟨cnt, c1, c2, hO1, ⟨nd, wn, S, By, Ah, hO2⟩, hP1, hP2⟩ := hst
  refine lv_aload_n hx hb dL_law_935 rfl (lv_at hl 1 rfl) ?_
  refine lv_aload_n hx hb dL_law_936 rfl (lv_at hl 0 rfl) ?_
  refine lv_iload_n hx hb dL_law_937 rfl (lv_at hl 3 rfl) ?_
  refine z_ic hx hb dL_law_938 (by decide) (fun v938 h938 => ?_)
  refine z_addE hx hb dL_law_939 (by omega) (fun v939 h939 => ?_)
  refine va_sld hx hb hX hbl hbA hS (z_in (by omega) (by omega)) dL_law_940 ?_
  refine lv_topi (fun y940 e940 => ?_)
  refine lv_aload_n hx hb dL_law_941 rfl (lv_at hl 0 rfl) ?_
  refine lv_iload_n hx hb dL_law_942 rfl (lv_at hl 3 rfl) ?_
  refine z_ic hx hb dL_law_943 (by decide) (fun v943 h943 => ?_)
  refine z_addE hx hb dL_law_944 (by omega) (fun v944 h944 => ?_)
  refine va_sld hx hb hX hbl hbA hS (z_in (by omega) (by omega)) dL_law_945 ?_
  refine lv_topi (fun y945 e945 => ?_)
  obtain ⟨_, _, k946, _, _⟩ := gg_GK hO1
  refine u_ci (z_rV (q0 := 0) (As := [.int y940, .int y945]) (rest := []) ⟨hx, hb, hml, hown, hts⟩ (c_X7_about l D cy a1 cnt B (fun _ => True) hJ1 y940 y945) (cwV 2 hts (g_V0 mw_662 mw_282 mw_283 mw_2 mw_284) rfl rfl rfl (by decide +kernel) ⟨Nat.le_of_ble_eq_true rfl, Nat.le_of_ble_eq_true rfl⟩) hK hN ⟨hO1, trivial⟩ hP1 (by decide) k946 rfl rfl hl.1 rfl (Nat.le_of_ble_eq_true rfl) dL_law_946 ⟨by decide, by decide⟩) hS hg1 hap hP2 (fun r946 c1_946 H locs w946 hP1 hP2 hS => ?_)
  have hO1 := w946.1.1
  refine lv_pop hx hb dL_law_949 rfl ?_
  refine lv_aload_n hx hb dL_law_950 rfl (lv_at hl 2 rfl) ?_
  refine lv_aload_n hx hb dL_law_951 rfl (lv_at hl 0 rfl) ?_
  refine lv_iload_n hx hb dL_law_952 rfl (lv_at hl 3 rfl) ?_
  refine z_ic hx hb dL_law_953 (by decide) (fun v953 h953 => ?_)
  refine z_addE hx hb dL_law_954 (by omega) (fun v954 h954 => ?_)
  refine va_sld hx hb hX hbl hbA hS (z_in (by omega) (by omega)) dL_law_955 ?_
  refine lv_topi (fun y955 e955 => ?_)
  refine lv_aload_n hx hb dL_law_956 rfl (lv_at hl 0 rfl) ?_
  refine lv_iload_n hx hb dL_law_957 rfl (lv_at hl 3 rfl) ?_
  refine z_ic hx hb dL_law_958 (by decide) (fun v958 h958 => ?_)
  refine z_addE hx hb dL_law_959 (by omega) (fun v959 h959 => ?_)
  refine va_sld hx hb hX hbl hbA hS (z_in (by omega) (by omega)) dL_law_960 ?_
  refine lv_topi (fun y960 e960 => ?_)
  obtain ⟨_, _, _, _, _, _, _, _, _, _, _, _, _, _, _, _, k961, _, _, _, _, _, _, _, _, _, _, _, _, _, _, _, _, _, _, _, _, _, _⟩ := mg_Mo hO2
  refine u_ci (z_rV (q0 := 0) (As := [.int y955, .int y960]) (rest := []) ⟨hx, hb, hml, hown, hts⟩ (c_X8_about l D cy a2 cnt nd wn S By Ah (fun _ => True) hJ2 y955 y960) (cwV 2 hts (g_V0 mw_663 mw_664 mw_665 mw_324 mw_666) rfl rfl rfl (by decide +kernel) ⟨Nat.le_of_ble_eq_true rfl, Nat.le_of_ble_eq_true rfl⟩) hK hN ⟨hO2, trivial⟩ hP2 (by decide) k961 rfl rfl hl.1 rfl (Nat.le_of_ble_eq_true rfl) dL_law_961 ⟨by decide, by decide⟩) hS hg2 hap2 hP1 (fun r961 c2_961 H locs w961 hP2 hP1 hS => ?_)
  have hO2 := w961.1.1
  refine lv_pop hx hb dL_law_964 rfl ?_
  refine lv_goto (tgt := 1004) hx hb dL_law_965 (by decide) ?_
  exact kk _ _ ⟨cnt, _, _, (gOK_mono (by omega) hO1), ⟨_, _, _, _, _, hO2⟩, hP1, hP2⟩ hS
set_option maxHeartbeats 8000000 in
set_option maxRecDepth 100000 in
theorem lc_16 {p : Program} {l : Launch} {e : Env} {s : State} {m : MethodId} {below : List Frame} {meth : Method} {c : Code} {b L : Nat} {xs : Nat → Int32} {D : va_G} {cy : Nat → ClassId} {a1 a2 : Nat → Nat} {Q : State → Prop} (hL : L ≤ 4096) (C0 : lK p s m meth c b L xs D cy a1 a2) {B : Nat} (hB : 1 ≤ B ∧ B + 60 ≤ 1000000) {x3 : Int32} (hx3 : 0 ≤ x3.toInt ∧ x3.toInt + 8 ≤ (L : Int)) {H : Heap} {locs : List Loc} (hst : lS D cy a1 a2 B H) (hS : va_S (fun q : Nat => s.heap.size ≤ q) s.heap H locs) {ls : Array Slot} (hl : lv_has ls 4 [(0, .ref b), (1, .ref (a1 0)), (2, .ref (a2 0)), (3, .int x3)]) (kk : ∀ (H : Heap) (locs : List Loc), lS D cy a1 a2 (B + 60) H → va_S (fun q : Nat => s.heap.size ≤ q) s.heap H locs → W p l e room_1 s m #[Value.ref b] below meth c H locs 107 4467 Q (F0 m 1004 ls [])) : W p l e room_1 s m #[Value.ref b] below meth c H locs 107 4467 Q (F0 m 968 ls []) := by
  obtain ⟨⟨hx, hb, hr, hml, hown, hts, hX, hbl, hlocks, hgv⟩, hK, hN, hJ1, hJ2, hap, hg1, hg2⟩ := C0
  have hap2 : ∀ i j, i < 34 → j < 73 → a2 i ≠ a1 j := fun i j h1 h2 h3 => hap j i h2 h1 h3.symm
  have hts : ∀ w ∈ wsL_law, w.before #[Value.ref b] s = true := fun w h => hts w (wsL_law_in w h)
  have hbA : ¬ (fun q : Nat => s.heap.size ≤ q) b := Nat.not_le.mpr hbl
  obtain ⟨cnt, c1, c2, hO1, ⟨nd, wn, S, By, Ah, hO2⟩, hP1, hP2⟩ := hst
  refine lv_aload_n hx hb dL_law_968 rfl (lv_at hl 1 rfl) ?_
  refine lv_aload_n hx hb dL_law_969 rfl (lv_at hl 0 rfl) ?_
  refine lv_iload_n hx hb dL_law_970 rfl (lv_at hl 3 rfl) ?_
  refine z_ic hx hb dL_law_971 (by decide) (fun v971 h971 => ?_)
  refine z_addE hx hb dL_law_972 (by omega) (fun v972 h972 => ?_)
  refine va_sld hx hb hX hbl hbA hS (z_in (by omega) (by omega)) dL_law_973 ?_
  refine lv_topi (fun y973 e973 => ?_)
  obtain ⟨_, _, k974, _, _⟩ := gg_GK hO1
  refine u_ci (z_rV (q0 := 0) (As := [.int y973]) (rest := []) ⟨hx, hb, hml, hown, hts⟩ (c_X7_count l D cy a1 cnt B (fun _ => True) hJ1 y973) (cwV 1 hts (g_V0 mw_667 mw_286 mw_287 mw_2 mw_288) rfl rfl rfl (by decide +kernel) ⟨Nat.le_of_ble_eq_true rfl, Nat.le_of_ble_eq_true rfl⟩) hK hN ⟨hO1, trivial⟩ hP1 (by decide) k974 rfl rfl hl.1 rfl (Nat.le_of_ble_eq_true rfl) dL_law_974 ⟨by decide, by decide⟩) hS hg1 hap hP2 (fun r974 c1_974 H locs w974 hP1 hP2 hS => ?_)
  have hO1 := w974.1.1
  refine lv_pop hx hb dL_law_977 rfl ?_
  refine lv_aload_n hx hb dL_law_978 rfl (lv_at hl 2 rfl) ?_
  refine lv_aload_n hx hb dL_law_979 rfl (lv_at hl 0 rfl) ?_
  refine lv_iload_n hx hb dL_law_980 rfl (lv_at hl 3 rfl) ?_
  refine z_ic hx hb dL_law_981 (by decide) (fun v981 h981 => ?_)
  refine z_addE hx hb dL_law_982 (by omega) (fun v982 h982 => ?_)
  refine va_sld hx hb hX hbl hbA hS (z_in (by omega) (by omega)) dL_law_983 ?_
  refine lv_topi (fun y983 e983 => ?_)
  obtain ⟨_, _, _, _, _, _, _, _, _, _, _, _, _, _, _, _, k984, _, _, _, _, _, _, _, _, _, _, _, _, _, _, _, _, _, _, _, _, _, _⟩ := mg_Mo hO2
  refine u_ci (z_rV (q0 := 0) (As := [.int y983]) (rest := []) ⟨hx, hb, hml, hown, hts⟩ (c_X8_count l D cy a2 cnt nd wn S By Ah (fun _ => True) hJ2 y983) (cwV 1 hts (g_V0 mw_668 mw_480 mw_481 mw_324 mw_482) rfl rfl rfl (by decide +kernel) ⟨Nat.le_of_ble_eq_true rfl, Nat.le_of_ble_eq_true rfl⟩) hK hN ⟨hO2, trivial⟩ hP2 (by decide) k984 rfl rfl hl.1 rfl (Nat.le_of_ble_eq_true rfl) dL_law_984 ⟨by decide, by decide⟩) hS hg2 hap2 hP1 (fun r984 c2_984 H locs w984 hP2 hP1 hS => ?_)
  have hO2 := w984.1.1
  refine lv_pop hx hb dL_law_987 rfl ?_
  refine lv_goto (tgt := 1004) hx hb dL_law_988 (by decide) ?_
  exact kk _ _ ⟨cnt, _, _, (gOK_mono (by omega) hO1), ⟨_, _, _, _, _, hO2⟩, hP1, hP2⟩ hS
set_option maxHeartbeats 8000000 in
set_option maxRecDepth 100000 in
theorem lc_17 {p : Program} {l : Launch} {e : Env} {s : State} {m : MethodId} {below : List Frame} {meth : Method} {c : Code} {b L : Nat} {xs : Nat → Int32} {D : va_G} {cy : Nat → ClassId} {a1 a2 : Nat → Nat} {Q : State → Prop} (hL : L ≤ 4096) (C0 : lK p s m meth c b L xs D cy a1 a2) {B : Nat} (hB : 1 ≤ B ∧ B + 60 ≤ 1000000) {x3 : Int32} (hx3 : 0 ≤ x3.toInt ∧ x3.toInt + 8 ≤ (L : Int)) {H : Heap} {locs : List Loc} (hst : lS D cy a1 a2 B H) (hS : va_S (fun q : Nat => s.heap.size ≤ q) s.heap H locs) {ls : Array Slot} (hl : lv_has ls 4 [(0, .ref b), (1, .ref (a1 0)), (2, .ref (a2 0)), (3, .int x3)]) (kk : ∀ (H : Heap) (locs : List Loc), lS D cy a1 a2 (B + 60) H → va_S (fun q : Nat => s.heap.size ≤ q) s.heap H locs → W p l e room_1 s m #[Value.ref b] below meth c H locs 107 4467 Q (F0 m 1004 ls [])) : W p l e room_1 s m #[Value.ref b] below meth c H locs 107 4467 Q (F0 m 991 ls []) := by
  obtain ⟨⟨hx, hb, hr, hml, hown, hts, hX, hbl, hlocks, hgv⟩, hK, hN, hJ1, hJ2, hap, hg1, hg2⟩ := C0
  have hap2 : ∀ i j, i < 34 → j < 73 → a2 i ≠ a1 j := fun i j h1 h2 h3 => hap j i h2 h1 h3.symm
  have hts : ∀ w ∈ wsL_law, w.before #[Value.ref b] s = true := fun w h => hts w (wsL_law_in w h)
  have hbA : ¬ (fun q : Nat => s.heap.size ≤ q) b := Nat.not_le.mpr hbl
  obtain ⟨cnt, c1, c2, hO1, ⟨nd, wn, S, By, Ah, hO2⟩, hP1, hP2⟩ := hst
  refine lv_aload_n hx hb dL_law_991 rfl (lv_at hl 1 rfl) ?_
  obtain ⟨_, _, k992, _, _⟩ := gg_GK hO1
  refine u_cl (z_rV (q0 := 0) (As := []) (rest := []) ⟨hx, hb, hml, hown, hts⟩ (c_X7_digest l D cy a1 cnt B (fun _ => True) hJ1) (cwV 0 hts (g_V0 mw_669 mw_670 mw_671 mw_2 mw_672) rfl rfl rfl (by decide +kernel) ⟨Nat.le_of_ble_eq_true rfl, Nat.le_of_ble_eq_true rfl⟩) hK hN ⟨hO1, trivial⟩ hP1 (by decide) k992 rfl rfl hl.1 rfl (Nat.le_of_ble_eq_true rfl) dL_law_992 ⟨by decide, by decide⟩) hS hg1 hap hP2 (fun r992 c1_992 H locs w992 hP1 hP2 hS => ?_)
  have hO1 := w992.1.1
  refine lv_pop2_2 hx hb dL_law_995 rfl ?_
  refine lv_aload_n hx hb dL_law_996 rfl (lv_at hl 2 rfl) ?_
  obtain ⟨_, _, _, _, _, _, _, _, _, _, _, _, _, _, _, _, k997, _, _, _, _, _, _, _, _, _, _, _, _, _, _, _, _, _, _, _, _, _, _⟩ := mg_Mo hO2
  refine u_cl (z_rV (q0 := 0) (As := []) (rest := []) ⟨hx, hb, hml, hown, hts⟩ (c_X8_digest l D cy a2 cnt nd wn S By Ah (fun _ => True) hJ2) (cwV 0 hts (g_V0 mw_673 mw_674 mw_675 mw_324 mw_676) rfl rfl rfl (by decide +kernel) ⟨Nat.le_of_ble_eq_true rfl, Nat.le_of_ble_eq_true rfl⟩) hK hN ⟨hO2, trivial⟩ hP2 (by decide) k997 rfl rfl hl.1 rfl (Nat.le_of_ble_eq_true rfl) dL_law_997 ⟨by decide, by decide⟩) hS hg2 hap2 hP1 (fun r997 c2_997 H locs w997 hP2 hP1 hS => ?_)
  have hO2 := w997.1.1
  refine lv_pop2_2 hx hb dL_law_1000 rfl ?_
  refine lv_goto (tgt := 1004) hx hb dL_law_1001 (by decide) ?_
  exact kk _ _ ⟨cnt, _, _, (gOK_mono (by omega) hO1), ⟨_, _, _, _, _, hO2⟩, hP1, hP2⟩ hS
