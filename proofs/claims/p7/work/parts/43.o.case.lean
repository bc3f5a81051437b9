set_option maxHeartbeats 8000000 in
set_option maxRecDepth 100000 in
theorem lc_14 {p : Program} {l : Launch} {e : Env} {s : State} {m : MethodId} {below : List Frame} {meth : Method} {c : Code} {b L : Nat} {xs : Nat → Int32} {D : va_G} {cy : Nat → ClassId} {a1 a2 : Nat → Nat} {Q : State → Prop} (hL : L ≤ 4096) (C0 : lK p s m meth c b L xs D cy a1 a2) {B : Nat} (hB : 1 ≤ B ∧ B + 60 ≤ 1000000) {x3 : Int32} (hx3 : 0 ≤ x3.toInt ∧ x3.toInt + 8 ≤ (L : Int)) {H : Heap} {locs : List Loc} (hst : lS D cy a1 a2 B H) (hS : va_S (fun q : Nat => s.heap.size ≤ q) s.heap H locs) {ls : Array Slot} (hl : lv_has ls 4 [(0, .ref b), (1, .ref (a1 0)), (2, .ref (a2 0)), (3, .int x3)]) (kk : ∀ (H : Heap) (locs : List Loc), lS D cy a1 a2 (B + 60) H → va_S (fun q : Nat => s.heap.size ≤ q) s.heap H locs → W p l e room_1 s m #[Value.ref b] below meth c H locs 107 4467 Q (F0 m 1004 ls [])) : W p l e room_1 s m #[Value.ref b] below meth c H locs 107 4467 Q (F0 m 912 ls []) := by
  obtain ⟨⟨hx, hb, hr, hml, hown, hts, hX, hbl, hlocks, hgv⟩, hK, hN, hJ1, hJ2, hap, hg1, hg2⟩ := C0
  have hap2 : ∀ i j, i < 34 → j < 73 → a2 i ≠ a1 j := fun i j h1 h2 h3 => hap j i h2 h1 h3.symm
  have hts : ∀ w ∈ wsL_law, w.before #[Value.ref b] s = true := fun w h => hts w (wsL_law_in w h)
  have hbA : ¬ (fun q : Nat => s.heap.size ≤ q) b := Nat.not_le.mpr hbl
  obtain ⟨cnt, c1, c2, hO1, ⟨nd, wn, S, By, Ah, hO2⟩, hP1, hP2⟩ := hst
  refine lv_aload_n hx hb dL_law_912 rfl (lv_at hl 1 rfl) ?_
  refine rd_a 1 hx hb hX hbl hbA hS hl hx3 hL rfl (by decide) (by decide) dL_law_913 dL_law_914 dL_law_915 dL_law_916 dL_law_917 (fun y917 e917 => ?_)
  obtain ⟨_, _, k918, _, _⟩ := gg_GK hO1
  refine u_ci (z_rV (q0 := 0) (As := [.int y917]) (rest := []) ⟨hx, hb, hml, hown, hts⟩ (c_X7_tick l D cy a1 cnt B hJ1 (by omega) y917) (cwV 1 hts (g_V0 mw_654 mw_655 mw_656 mw_2 mw_657) rfl rfl rfl (by decide +kernel) ⟨Nat.le_of_ble_eq_true rfl, Nat.le_of_ble_eq_true rfl⟩) hK hN hO1 hP1 (by decide) k918 rfl rfl hl.1 rfl (Nat.le_of_ble_eq_true rfl) dL_law_918 ⟨by decide, by decide⟩) hS hg1 hap hP2 (fun r918 c1_918 H locs w918 hP1 hP2 hS => ?_)
  have hO1 := w918.1
  refine lv_pop hx hb dL_law_921 rfl ?_
  refine lv_aload_n hx hb dL_law_922 rfl (lv_at hl 2 rfl) ?_
  refine rd_a 1 hx hb hX hbl hbA hS hl hx3 hL rfl (by decide) (by decide) dL_law_923 dL_law_924 dL_law_925 dL_law_926 dL_law_927 (fun y927 e927 => ?_)
  obtain ⟨_, _, _, _, _, _, _, _, _, _, _, _, _, _, _, _, k928, _, _, _, _, _, _, _, _, _, _, _, _, _, _, _, _, _, _, _, _, _, _⟩ := mg_Mo hO2
  refine u_ci (z_rV (q0 := 0) (As := [.int y927]) (rest := []) ⟨hx, hb, hml, hown, hts⟩ (c_X8_tick l D cy a2 cnt nd wn S By Ah hJ2 y927) (cwV 1 hts (g_V0 mw_658 mw_659 mw_660 mw_324 mw_661) rfl rfl rfl (by decide +kernel) ⟨Nat.le_of_ble_eq_true rfl, Nat.le_of_ble_eq_true rfl⟩) hK hN hO2 hP2 (by decide) k928 rfl rfl hl.1 rfl (Nat.le_of_ble_eq_true rfl) dL_law_928 ⟨by decide, by decide⟩) hS hg2 hap2 hP1 (fun r928 c2_928 H locs w928 hP2 hP1 hS => ?_)
  obtain ⟨nd, wn, S, By, Ah, hO2⟩ := w928
  refine lv_pop hx hb dL_law_931 rfl ?_
  refine lv_goto (tgt := 1004) hx hb dL_law_932 (by decide) ?_
  exact kk _ _ ⟨cnt, _, _, hO1, ⟨_, _, _, _, _, hO2⟩, hP1, hP2⟩ hS
