set_option maxHeartbeats 8000000 in
set_option maxRecDepth 100000 in
theorem lc_13 {p : Program} {l : Launch} {e : Env} {s : State} {m : MethodId} {below : List Frame} {meth : Method} {c : Code} {b L : Nat} {xs : Nat → Int32} {D : va_G} {cy : Nat → ClassId} {a1 a2 : Nat → Nat} {Q : State → Prop} (hL : L ≤ 4096) (C0 : lK p s m meth c b L xs D cy a1 a2) {B : Nat} (hB : 1 ≤ B ∧ B + 60 ≤ 1000000) {x3 : Int32} (hx3 : 0 ≤ x3.toInt ∧ x3.toInt + 8 ≤ (L : Int)) {H : Heap} {locs : List Loc} (hst : lS D cy a1 a2 B H) (hS : va_S (fun q : Nat => s.heap.size ≤ q) s.heap H locs) {ls : Array Slot} (hl : lv_has ls 4 [(0, .ref b), (1, .ref (a1 0)), (2, .ref (a2 0)), (3, .int x3)]) (kk : ∀ (H : Heap) (locs : List Loc), lS D cy a1 a2 (B + 60) H → va_S (fun q : Nat => s.heap.size ≤ q) s.heap H locs → W p l e room_1 s m #[Value.ref b] below meth c H locs 107 4467 Q (F0 m 1004 ls [])) : W p l e room_1 s m #[Value.ref b] below meth c H locs 107 4467 Q (F0 m 859 ls []) := by
  obtain ⟨⟨hx, hb, hr, hml, hown, hts, hX, hbl, hlocks, hgv⟩, hK, hN, hJ1, hJ2, hap, hg1, hg2⟩ := C0
  have hap2 : ∀ i j, i < 34 → j < 73 → a2 i ≠ a1 j := fun i j h1 h2 h3 => hap j i h2 h1 h3.symm
  have hts : ∀ w ∈ wsL_law, w.before #[Value.ref b] s = true := fun w h => hts w (wsL_law_in w h)
  have hbA : ¬ (fun q : Nat => s.heap.size ≤ q) b := Nat.not_le.mpr hbl
  obtain ⟨cnt, c1, c2, hO1, ⟨nd, wn, S, By, Ah, hO2⟩, hP1, hP2⟩ := hst
  refine lv_aload_n hx hb dL_law_859 rfl (lv_at hl 1 rfl) ?_
  refine rd_a 1 hx hb hX hbl hbA hS hl hx3 hL rfl (by decide) (by decide) dL_law_860 dL_law_861 dL_law_862 dL_law_863 dL_law_864 (fun y864 e864 => ?_)
  refine rd_a 2 hx hb hX hbl hbA hS hl hx3 hL rfl (by decide) (by decide) dL_law_865 dL_law_866 dL_law_867 dL_law_868 dL_law_869 (fun y869 e869 => ?_)
  refine rd_a 3 hx hb hX hbl hbA hS hl hx3 hL rfl (by decide) (by decide) dL_law_870 dL_law_871 dL_law_872 dL_law_873 dL_law_874 (fun y874 e874 => ?_)
  refine rd_a 4 hx hb hX hbl hbA hS hl hx3 hL rfl (by decide) (by decide) dL_law_875 dL_law_876 dL_law_877 dL_law_878 dL_law_879 (fun y879 e879 => ?_)
  obtain ⟨_, _, k880, _, _⟩ := gg_GK hO1
  refine u_ci (z_rV (q0 := 0) (As := [.int y864, .int y869, .int y874, .int y879]) (rest := []) ⟨hx, hb, hml, hown, hts⟩ (c_X7_go l D cy a1 cnt B hJ1 (by omega) y864 y869 y874 y879) (cwV 4 hts (g_V0 mw_646 mw_647 mw_648 mw_2 mw_649) rfl rfl rfl (by decide +kernel) ⟨Nat.le_of_ble_eq_true rfl, Nat.le_of_ble_eq_true rfl⟩) hK hN hO1 hP1 (by decide) k880 rfl rfl hl.1 rfl (Nat.le_of_ble_eq_true rfl) dL_law_880 ⟨by decide, by decide⟩) hS hg1 hap hP2 (fun r880 c1_880 H locs w880 hP1 hP2 hS => ?_)
  have hO1 := w880.1
  refine lv_pop hx hb dL_law_883 rfl ?_
  refine lv_aload_n hx hb dL_law_884 rfl (lv_at hl 2 rfl) ?_
  refine rd_a 1 hx hb hX hbl hbA hS hl hx3 hL rfl (by decide) (by decide) dL_law_885 dL_law_886 dL_law_887 dL_law_888 dL_law_889 (fun y889 e889 => ?_)
  refine rd_a 2 hx hb hX hbl hbA hS hl hx3 hL rfl (by decide) (by decide) dL_law_890 dL_law_891 dL_law_892 dL_law_893 dL_law_894 (fun y894 e894 => ?_)
  refine rd_a 3 hx hb hX hbl hbA hS hl hx3 hL rfl (by decide) (by decide) dL_law_895 dL_law_896 dL_law_897 dL_law_898 dL_law_899 (fun y899 e899 => ?_)
  refine rd_a 4 hx hb hX hbl hbA hS hl hx3 hL rfl (by decide) (by decide) dL_law_900 dL_law_901 dL_law_902 dL_law_903 dL_law_904 (fun y904 e904 => ?_)
  obtain ⟨_, _, _, _, _, _, _, _, _, _, _, _, _, _, _, _, k905, _, _, _, _, _, _, _, _, _, _, _, _, _, _, _, _, _, _, _, _, _, _⟩ := mg_Mo hO2
  refine u_ci (z_rV (q0 := 0) (As := [.int y889, .int y894, .int y899, .int y904]) (rest := []) ⟨hx, hb, hml, hown, hts⟩ (c_X8_go l D cy a2 cnt nd wn S By Ah hJ2 y889 y894 y899 y904) (cwV 4 hts (g_V0 mw_650 mw_651 mw_652 mw_324 mw_653) rfl rfl rfl (by decide +kernel) ⟨Nat.le_of_ble_eq_true rfl, Nat.le_of_ble_eq_true rfl⟩) hK hN hO2 hP2 (by decide) k905 rfl rfl hl.1 rfl (Nat.le_of_ble_eq_true rfl) dL_law_905 ⟨by decide, by decide⟩) hS hg2 hap2 hP1 (fun r905 c2_905 H locs w905 hP2 hP1 hS => ?_)
  obtain ⟨nd, wn, S, By, Ah, hO2⟩ := w905
  refine lv_pop hx hb dL_law_908 rfl ?_
  refine lv_goto (tgt := 1004) hx hb dL_law_909 (by decide) ?_
  exact kk _ _ ⟨cnt, _, _, (gOK_mono (by omega) hO1), ⟨_, _, _, _, _, hO2⟩, hP1, hP2⟩ hS
