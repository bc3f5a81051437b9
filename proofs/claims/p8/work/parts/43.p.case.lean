set_option maxHeartbeats 8000000 in
set_option maxRecDepth 100000 in
theorem lc_15 {p : Program} {l : Launch} {e : Env} {s : State} {m : MethodId} {below : List Frame} {meth : Method} {c : Code} {b L : Nat} {xs : Nat → Int32} {D : va_G} {cy : Nat → ClassId} {a1 a2 : Nat → Nat} {Q : State → Prop} (hL : L ≤ 4096) (C0 : lK p s m meth c b L xs D cy a1 a2) {B : Nat} (hB : 1 ≤ B ∧ B + 60 ≤ 1000000) {x3 : Int32} (hx3 : 0 ≤ x3.toInt ∧ x3.toInt + 8 ≤ (L : Int)) {H : Heap} {locs : List Loc} (hst : lS D cy a1 a2 B H) (hS : va_S (fun q : Nat => s.heap.size ≤ q) s.heap H locs) {ls : Array Slot} (hl : lv_has ls 4 [(0, .ref b), (1, .ref (a1 0)), (2, .ref (a2 0)), (3, .int x3)]) (kk : ∀ (H : Heap) (locs : List Loc), lS D cy a1 a2 (B + 60) H → va_S (fun q : Nat => s.heap.size ≤ q) s.heap H locs → W p l e room_1 s m #[Value.ref b] below meth c H locs 107 4467 Q (F0 m 1004 ls [])) : W p l e room_1 s m #[Value.ref b] below meth c H locs 107 4467 Q (F0 m 935 ls []) := by
  obtain ⟨⟨hx, hb, hr, hml, hown, hts, hX, hbl, hlocks, hgv⟩, hK, hN, hJ1, hJ2, hap, hg1, hg2⟩ := C0
  have hap2 : ∀ i j, i < 34 → j < 73 → a2 i ≠ a1 j := fun i j h1 h2 h3 => hap j i h2 h1 h3.symm
  have hts : ∀ w ∈ wsL_law, w.before #[Value.ref b] s = true := fun w h => hts w (wsL_law_in w h)
  have hbA : ¬ (fun q : Nat => s.heap.size ≤ q) b := Nat.not_le.mpr hbl
  obtain ⟨cnt, c1, c2, hO1, ⟨nd, wn, S, By, Ah, hO2⟩, hP1, hP2⟩ := hst
  refine lv_aload_n hx hb dL_law_935 rfl (lv_at hl 1 rfl) ?_
  refine rd_a 1 hx hb hX hbl hbA hS hl hx3 hL rfl (by decide) (by decide) dL_law_936 dL_law_937 dL_law_938 dL_law_939 dL_law_940 (fun y940 e940 => ?_)
  refine rd_a 2 hx hb hX hbl hbA hS hl hx3 hL rfl (by decide) (by decide) dL_law_941 dL_law_942 dL_law_943 dL_law_944 dL_law_945 (fun y945 e945 => ?_)
  obtain ⟨_, _, k946, _, _⟩ := gg_GK hO1
  refine u_ci (z_rV (q0 := 0) (As := [.int y940, .int y945]) (rest := []) ⟨hx, hb, hml, hown, hts⟩ (c_X7_about l D cy a1 cnt B (fun _ => True) hJ1 y940 y945) (cwV 2 hts (g_V0 mw_662 mw_282 mw_283 mw_2 mw_284) rfl rfl rfl (by decide +kernel) ⟨Nat.le_of_ble_eq_true rfl, Nat.le_of_ble_eq_true rfl⟩) hK hN ⟨hO1, trivial⟩ hP1 (by decide) k946 rfl rfl hl.1 rfl (Nat.le_of_ble_eq_true rfl) dL_law_946 ⟨by decide, by decide⟩) hS hg1 hap hP2 (fun r946 c1_946 H locs w946 hP1 hP2 hS => ?_)
  have hO1 := w946.1.1
  refine lv_pop hx hb dL_law_949 rfl ?_
  refine lv_aload_n hx hb dL_law_950 rfl (lv_at hl 2 rfl) ?_
  refine rd_a 1 hx hb hX hbl hbA hS hl hx3 hL rfl (by decide) (by decide) dL_law_951 dL_law_952 dL_law_953 dL_law_954 dL_law_955 (fun y955 e955 => ?_)
  refine rd_a 2 hx hb hX hbl hbA hS hl hx3 hL rfl (by decide) (by decide) dL_law_956 dL_law_957 dL_law_958 dL_law_959 dL_law_960 (fun y960 e960 => ?_)
  obtain ⟨_, _, _, _, _, _, _, _, _, _, _, _, _, _, _, _, k961, _, _, _, _, _, _, _, _, _, _, _, _, _, _, _, _, _, _, _, _, _, _⟩ := mg_Mo hO2
  refine u_ci (z_rV (q0 := 0) (As := [.int y955, .int y960]) (rest := []) ⟨hx, hb, hml, hown, hts⟩ (c_X8_about l D cy a2 cnt nd wn S By Ah (fun _ => True) hJ2 y955 y960) (cwV 2 hts (g_V0 mw_663 mw_664 mw_665 mw_324 mw_666) rfl rfl rfl (by decide +kernel) ⟨Nat.le_of_ble_eq_true rfl, Nat.le_of_ble_eq_true rfl⟩) hK hN ⟨hO2, trivial⟩ hP2 (by decide) k961 rfl rfl hl.1 rfl (Nat.le_of_ble_eq_true rfl) dL_law_961 ⟨by decide, by decide⟩) hS hg2 hap2 hP1 (fun r961 c2_961 H locs w961 hP2 hP1 hS => ?_)
  have hO2 := w961.1.1
  refine lv_pop hx hb dL_law_964 rfl ?_
  refine lv_goto (tgt := 1004) hx hb dL_law_965 (by decide) ?_
  exact kk _ _ ⟨cnt, _, _, (gOK_mono (by omega) hO1), ⟨_, _, _, _, _, hO2⟩, hP1, hP2⟩ hS
