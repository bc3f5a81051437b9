set_option maxHeartbeats 8000000 in
set_option maxRecDepth 100000 in
theorem lc_0 {p : Program} {l : Launch} {e : Env} {s : State} {m : MethodId} {below : List Frame} {meth : Method} {c : Code} {b L : Nat} {xs : Nat → Int32} {D : va_G} {cy : Nat → ClassId} {a1 a2 : Nat → Nat} {Q : State → Prop} (hL : L ≤ 4096) (C0 : lK p s m meth c b L xs D cy a1 a2) {B : Nat} (hB : 1 ≤ B ∧ B + 60 ≤ 1000000) {x3 : Int32} (hx3 : 0 ≤ x3.toInt ∧ x3.toInt + 8 ≤ (L : Int)) {H : Heap} {locs : List Loc} (hst : lS D cy a1 a2 B H) (hS : va_S (fun q : Nat => s.heap.size ≤ q) s.heap H locs) {ls : Array Slot} (hl : lv_has ls 4 [(0, .ref b), (1, .ref (a1 0)), (2, .ref (a2 0)), (3, .int x3)]) (kk : ∀ (H : Heap) (locs : List Loc), lS D cy a1 a2 (B + 60) H → va_S (fun q : Nat => s.heap.size ≤ q) s.heap H locs → W p l e room_1 s m #[Value.ref b] below meth c H locs 107 4467 Q (F0 m 1004 ls [])) : W p l e room_1 s m #[Value.ref b] below meth c H locs 107 4467 Q (F0 m 120 ls []) := by
  obtain ⟨⟨hx, hb, hr, hml, hown, hts, hX, hbl, hlocks, hgv⟩, hK, hN, hJ1, hJ2, hap, hg1, hg2⟩ := C0
  have hap2 : ∀ i j, i < 34 → j < 73 → a2 i ≠ a1 j := fun i j h1 h2 h3 => hap j i h2 h1 h3.symm
  have hts : ∀ w ∈ wsL_law, w.before #[Value.ref b] s = true := fun w h => hts w (wsL_law_in w h)
  have hbA : ¬ (fun q : Nat => s.heap.size ≤ q) b := Nat.not_le.mpr hbl
  obtain ⟨cnt, c1, c2, hO1, ⟨nd, wn, S, By, Ah, hO2⟩, hP1, hP2⟩ := hst
  refine lv_aload_n hx hb dL_law_120 rfl (lv_at hl 1 rfl) ?_
  refine rd_a 1 hx hb hX hbl hbA hS hl hx3 hL rfl (by decide) (by decide) dL_law_121 dL_law_122 dL_law_123 dL_law_124 dL_law_125 (fun y125 e125 => ?_)
  refine rd_a 2 hx hb hX hbl hbA hS hl hx3 hL rfl (by decide) (by decide) dL_law_126 dL_law_127 dL_law_128 dL_law_129 dL_law_130 (fun y130 e130 => ?_)
  refine rd_a 3 hx hb hX hbl hbA hS hl hx3 hL rfl (by decide) (by decide) dL_law_131 dL_law_132 dL_law_133 dL_law_134 dL_law_135 (fun y135 e135 => ?_)
  refine rd_a 4 hx hb hX hbl hbA hS hl hx3 hL rfl (by decide) (by decide) dL_law_136 dL_law_137 dL_law_138 dL_law_139 dL_law_140 (fun y140 e140 => ?_)
  refine rd_a 5 hx hb hX hbl hbA hS hl hx3 hL rfl (by decide) (by decide) dL_law_141 dL_law_142 dL_law_143 dL_law_144 dL_law_145 (fun y145 e145 => ?_)
  obtain ⟨_, _, k146, _, _⟩ := gg_GK hO1
  refine u_ci (z_rV (q0 := 0) (As := [.int y125, .int y130, .int y135, .int y140, .int y145]) (rest := []) ⟨hx, hb, hml, hown, hts⟩ (c_X7_room l D cy a1 cnt B hJ1 y125 y130 y135 y140 y145) (cwV 5 hts (g_V0 mw_542 mw_543 mw_544 mw_2 mw_545) rfl rfl rfl (by decide +kernel) ⟨Nat.le_of_ble_eq_true rfl, Nat.le_of_ble_eq_true rfl⟩) hK hN hO1 hP1 (by decide) k146 rfl rfl hl.1 rfl (Nat.le_of_ble_eq_true rfl) dL_law_146 ⟨by decide, by decide⟩) hS hg1 hap hP2 (fun r146 c1_146 H locs w146 hP1 hP2 hS => ?_)
  refine lv_pop hx hb dL_law_149 rfl ?_
  refine lv_aload_n hx hb dL_law_150 rfl (lv_at hl 2 rfl) ?_
  refine rd_a 1 hx hb hX hbl hbA hS hl hx3 hL rfl (by decide) (by decide) dL_law_151 dL_law_152 dL_law_153 dL_law_154 dL_law_155 (fun y155 e155 => ?_)
  refine rd_a 2 hx hb hX hbl hbA hS hl hx3 hL rfl (by decide) (by decide) dL_law_156 dL_law_157 dL_law_158 dL_law_159 dL_law_160 (fun y160 e160 => ?_)
  refine rd_a 3 hx hb hX hbl hbA hS hl hx3 hL rfl (by decide) (by decide) dL_law_161 dL_law_162 dL_law_163 dL_law_164 dL_law_165 (fun y165 e165 => ?_)
  refine rd_a 4 hx hb hX hbl hbA hS hl hx3 hL rfl (by decide) (by decide) dL_law_166 dL_law_167 dL_law_168 dL_law_169 dL_law_170 (fun y170 e170 => ?_)
  refine rd_a 5 hx hb hX hbl hbA hS hl hx3 hL rfl (by decide) (by decide) dL_law_171 dL_law_172 dL_law_173 dL_law_174 dL_law_175 (fun y175 e175 => ?_)
  obtain ⟨_, _, _, _, _, _, _, _, _, _, _, _, _, _, _, _, k176, _, _, _, _, _, _, _, _, _, _, _, _, _, _, _, _, _, _, _, _, _, _⟩ := mg_Mo hO2
  refine u_ci (z_rV (q0 := 0) (As := [.int y155, .int y160, .int y165, .int y170, .int y175]) (rest := []) ⟨hx, hb, hml, hown, hts⟩ (c_X8_room l D cy a2 cnt nd wn S By Ah hJ2 y155 y160 y165 y170 y175) (cwV 5 hts (g_V0 mw_546 mw_547 mw_548 mw_324 mw_549) rfl rfl rfl (by decide +kernel) ⟨Nat.le_of_ble_eq_true rfl, Nat.le_of_ble_eq_true rfl⟩) hK hN hO2 hP2 (by decide) k176 rfl rfl hl.1 rfl (Nat.le_of_ble_eq_true rfl) dL_law_176 ⟨by decide, by decide⟩) hS hg2 hap2 hP1 (fun r176 c2_176 H locs w176 hP2 hP1 hS => ?_)
  have z155 : y155 = y125 := e155.trans e125.symm
  have z160 : y160 = y130 := e160.trans e130.symm
  have z165 : y165 = y135 := e165.trans e135.symm
  have z170 : y170 = y140 := e170.trans e140.symm
  have z175 : y175 = y145 := e175.trans e145.symm
  rw [z155, z160, z165, z170, z175] at w176
  have htie := top_tie w146 w176
  refine lv_pop hx hb dL_law_179 rfl ?_
  refine lv_goto (tgt := 1004) hx hb dL_law_180 (by decide) ?_
  obtain ⟨_, cnt2, hO1, hO2⟩ := htie
  exact kk _ _ ⟨cnt2, _, _, gOK_mono (by omega) hO1, hO2, hP1, hP2⟩ hS
