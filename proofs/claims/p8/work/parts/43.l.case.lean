set_option maxHeartbeats 8000000 in
set_option maxRecDepth 100000 in
theorem lc_11 {p : Program} {l : Launch} {e : Env} {s : State} {m : MethodId} {below : List Frame} {meth : Method} {c : Code} {b L : Nat} {xs : Nat → Int32} {D : va_G} {cy : Nat → ClassId} {a1 a2 : Nat → Nat} {Q : State → Prop} (hL : L ≤ 4096) (C0 : lK p s m meth c b L xs D cy a1 a2) {B : Nat} (hB : 1 ≤ B ∧ B + 60 ≤ 1000000) {x3 : Int32} (hx3 : 0 ≤ x3.toInt ∧ x3.toInt + 8 ≤ (L : Int)) {H : Heap} {locs : List Loc} (hst : lS D cy a1 a2 B H) (hS : va_S (fun q : Nat => s.heap.size ≤ q) s.heap H locs) {ls : Array Slot} (hl : lv_has ls 4 [(0, .ref b), (1, .ref (a1 0)), (2, .ref (a2 0)), (3, .int x3)]) (kk : ∀ (H : Heap) (locs : List Loc), lS D cy a1 a2 (B + 60) H → va_S (fun q : Nat => s.heap.size ≤ q) s.heap H locs → W p l e room_1 s m #[Value.ref b] below meth c H locs 107 4467 Q (F0 m 1004 ls [])) : W p l e room_1 s m #[Value.ref b] below meth c H locs 107 4467 Q (F0 m 773 ls []) := by
  obtain ⟨⟨hx, hb, hr, hml, hown, hts, hX, hbl, hlocks, hgv⟩, hK, hN, hJ1, hJ2, hap, hg1, hg2⟩ := C0
  have hap2 : ∀ i j, i < 34 → j < 73 → a2 i ≠ a1 j := fun i j h1 h2 h3 => hap j i h2 h1 h3.symm
  have hts : ∀ w ∈ wsL_law, w.before #[Value.ref b] s = true := fun w h => hts w (wsL_law_in w h)
  have hbA : ¬ (fun q : Nat => s.heap.size ≤ q) b := Nat.not_le.mpr hbl
  obtain ⟨cnt, c1, c2, hO1, ⟨nd, wn, S, By, Ah, hO2⟩, hP1, hP2⟩ := hst
  refine lv_aload_n hx hb dL_law_773 rfl (lv_at hl 1 rfl) ?_
  refine rd_a 1 hx hb hX hbl hbA hS hl hx3 hL rfl (by decide) (by decide) dL_law_774 dL_law_775 dL_law_776 dL_law_777 dL_law_778 (fun y778 e778 => ?_)
  refine rd_a 2 hx hb hX hbl hbA hS hl hx3 hL rfl (by decide) (by decide) dL_law_779 dL_law_780 dL_law_781 dL_law_782 dL_law_783 (fun y783 e783 => ?_)
  refine rd_a 3 hx hb hX hbl hbA hS hl hx3 hL rfl (by decide) (by decide) dL_law_784 dL_law_785 dL_law_786 dL_law_787 dL_law_788 (fun y788 e788 => ?_)
  obtain ⟨_, _, k789, _, _⟩ := gg_GK hO1
  refine u_ci (z_rV (q0 := 0) (As := [.int y778, .int y783, .int y788]) (rest := []) ⟨hx, hb, hml, hown, hts⟩ (c_X7_reach l D cy a1 cnt B hJ1 y778 y783 y788) (cwV 3 hts (g_V0 mw_630 mw_631 mw_632 mw_2 mw_633) rfl rfl rfl (by decide +kernel) ⟨Nat.le_of_ble_eq_true rfl, Nat.le_of_ble_eq_true rfl⟩) hK hN hO1 hP1 (by decide) k789 rfl rfl hl.1 rfl (Nat.le_of_ble_eq_true rfl) dL_law_789 ⟨by decide, by decide⟩) hS hg1 hap hP2 (fun r789 c1_789 H locs w789 hP1 hP2 hS => ?_)
  have hO1 := w789.1
  refine lv_pop hx hb dL_law_792 rfl ?_
  refine lv_aload_n hx hb dL_law_793 rfl (lv_at hl 2 rfl) ?_
  refine rd_a 1 hx hb hX hbl hbA hS hl hx3 hL rfl (by decide) (by decide) dL_law_794 dL_law_795 dL_law_796 dL_law_797 dL_law_798 (fun y798 e798 => ?_)
  refine rd_a 2 hx hb hX hbl hbA hS hl hx3 hL rfl (by decide) (by decide) dL_law_799 dL_law_800 dL_law_801 dL_law_802 dL_law_803 (fun y803 e803 => ?_)
  refine rd_a 3 hx hb hX hbl hbA hS hl hx3 hL rfl (by decide) (by decide) dL_law_804 dL_law_805 dL_law_806 dL_law_807 dL_law_808 (fun y808 e808 => ?_)
  obtain ⟨_, _, _, _, _, _, _, _, _, _, _, _, _, _, _, _, k809, _, _, _, _, _, _, _, _, _, _, _, _, _, _, _, _, _, _, _, _, _, _⟩ := mg_Mo hO2
  refine u_ci (z_rV (q0 := 0) (As := [.int y798, .int y803, .int y808]) (rest := []) ⟨hx, hb, hml, hown, hts⟩ (c_X8_reach l D cy a2 cnt nd wn S By Ah hJ2 y798 y803 y808) (cwV 3 hts (g_V0 mw_634 mw_635 mw_636 mw_324 mw_637) rfl rfl rfl (by decide +kernel) ⟨Nat.le_of_ble_eq_true rfl, Nat.le_of_ble_eq_true rfl⟩) hK hN hO2 hP2 (by decide) k809 rfl rfl hl.1 rfl (Nat.le_of_ble_eq_true rfl) dL_law_809 ⟨by decide, by decide⟩) hS hg2 hap2 hP1 (fun r809 c2_809 H locs w809 hP2 hP1 hS => ?_)
  obtain ⟨nd, wn, S, By, Ah, hO2⟩ := w809
  refine lv_pop hx hb dL_law_812 rfl ?_
  refine lv_goto (tgt := 1004) hx hb dL_law_813 (by decide) ?_
  exact kk _ _ ⟨cnt, _, _, (gOK_mono (by omega) hO1), ⟨_, _, _, _, _, hO2⟩, hP1, hP2⟩ hS
