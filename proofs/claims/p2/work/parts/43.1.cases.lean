set_option maxHeartbeats 8000000 in
set_option maxRecDepth 100000 in
theorem lc_0 {p : Program} {l : Launch} {e : Env} {s : State} {m : MethodId} {below : List Frame} {meth : Method} {c : Code} {b L : Nat} {xs : Nat → Int32} {D : va_G} {cy : Nat → ClassId} {a1 a2 : Nat → Nat} {Q : State → Prop} (hL : L ≤ 4096) (C0 : lK p s m meth c b L xs D cy a1 a2) {B : Nat} (hB : 1 ≤ B ∧ B + 60 ≤ 1000000) {x3 : Int32} (hx3 : 0 ≤ x3.toInt ∧ x3.toInt + 8 ≤ (L : Int)) {H : Heap} {locs : List Loc} (hst : lS D cy a1 a2 B H) (hS : va_S (fun q : Nat => s.heap.size ≤ q) s.heap H locs) {ls : Array Slot} (hl : lv_has ls 4 [(0, .ref b), (1, .ref (a1 0)), (2, .ref (a2 0)), (3, .int x3)]) (kk : ∀ (H : Heap) (locs : List Loc), lS D cy a1 a2 (B + 60) H → va_S (fun q : Nat => s.heap.size ≤ q) s.heap H locs → W p l e room_1 s m #[Value.ref b] below meth c H locs 107 4467 Q (F0 m 1004 ls [])) : W p l e room_1 s m #[Value.ref b] below meth c H locs 107 4467 Q (F0 m 120 ls []) := by
  obtain ⟨⟨hx, hb, hr, hml, hown, hts, hX, hbl, hlocks, hgv⟩, hK, hN, hJ1, hJ2, hap, hg1, hg2⟩ := C0
  have hap2 : ∀ i j, i < 34 → j < 73 → a2 i ≠ a1 j := fun i j h1 h2 h3 => hap j i h2 h1 h3.symm
  have hts : ∀ w ∈ wsL_law, w.before #[Value.ref b] s = true := fun w h => hts w (wsL_law_in w h)
  have hbA : ¬ (fun q : Nat => s.heap.size ≤ q) b := Nat.not_le.mpr hbl
  obtain ⟨cnt, c1, c2, hO1, ⟨nd, wn, S, By, Ah, hO2⟩, hP1, hP2⟩ := hst
  refine lv_aload_n hx hb dL_law_120 rfl (lv_at hl 1 rfl) ?_
  refine lv_aload_n hx hb dL_law_121 rfl (lv_at hl 0 rfl) ?_
  refine lv_iload_n hx hb dL_law_122 rfl (lv_at hl 3 rfl) ?_
  refine z_ic hx hb dL_law_123 (by decide) (fun v123 h123 => ?_)
  refine z_addE hx hb dL_law_124 (by omega) (fun v124 h124 => ?_)
  refine va_sld hx hb hX hbl hbA hS (z_in (by omega) (by omega)) dL_law_125 ?_
  refine lv_topi (fun y125 e125 => ?_)
  refine lv_aload_n hx hb dL_law_126 rfl (lv_at hl 0 rfl) ?_
  refine lv_iload_n hx hb dL_law_127 rfl (lv_at hl 3 rfl) ?_
  refine z_ic hx hb dL_law_128 (by decide) (fun v128 h128 => ?_)
  refine z_addE hx hb dL_law_129 (by omega) (fun v129 h129 => ?_)
  refine va_sld hx hb hX hbl hbA hS (z_in (by omega) (by omega)) dL_law_130 ?_
  refine lv_topi (fun y130 e130 => ?_)
  refine lv_aload_n hx hb dL_law_131 rfl (lv_at hl 0 rfl) ?_
  refine lv_iload_n hx hb dL_law_132 rfl (lv_at hl 3 rfl) ?_
  refine z_ic hx hb dL_law_133 (by decide) (fun v133 h133 => ?_)
  refine z_addE hx hb dL_law_134 (by omega) (fun v134 h134 => ?_)
  refine va_sld hx hb hX hbl hbA hS (z_in (by omega) (by omega)) dL_law_135 ?_
  refine lv_topi (fun y135 e135 => ?_)
  refine lv_aload_n hx hb dL_law_136 rfl (lv_at hl 0 rfl) ?_
  refine lv_iload_n hx hb dL_law_137 rfl (lv_at hl 3 rfl) ?_
  refine z_ic hx hb dL_law_138 (by decide) (fun v138 h138 => ?_)
  refine z_addE hx hb dL_law_139 (by omega) (fun v139 h139 => ?_)
  refine va_sld hx hb hX hbl hbA hS (z_in (by omega) (by omega)) dL_law_140 ?_
  refine lv_topi (fun y140 e140 => ?_)
  refine lv_aload_n hx hb dL_law_141 rfl (lv_at hl 0 rfl) ?_
  refine lv_iload_n hx hb dL_law_142 rfl (lv_at hl 3 rfl) ?_
  refine z_ic hx hb dL_law_143 (by decide) (fun v143 h143 => ?_)
  refine z_addE hx hb dL_law_144 (by omega) (fun v144 h144 => ?_)
  refine va_sld hx hb hX hbl hbA hS (z_in (by omega) (by omega)) dL_law_145 ?_
  refine lv_topi (fun y145 e145 => ?_)
  obtain ⟨_, _, k146, _, _⟩ := gg_GK hO1
  refine u_ci (z_rV (q0 := 0) (As := [.int y125, .int y130, .int y135, .int y140, .int y145]) (rest := []) ⟨hx, hb, hml, hown, hts⟩ (c_X7_room l D cy a1 cnt B hJ1 y125 y130 y135 y140 y145) (cwV 5 hts (g_V0 mw_542 mw_543 mw_544 mw_2 mw_545) rfl rfl rfl (by decide +kernel) ⟨Nat.le_of_ble_eq_true rfl, Nat.le_of_ble_eq_true rfl⟩) hK hN hO1 hP1 (by decide) k146 rfl rfl hl.1 rfl (Nat.le_of_ble_eq_true rfl) dL_law_146 ⟨by decide, by decide⟩) hS hg1 hap hP2 (fun r146 c1_146 H locs w146 hP1 hP2 hS => ?_)
  refine lv_aload_n hx hb dL_law_149 rfl (lv_at hl 2 rfl) ?_
  refine lv_aload_n hx hb dL_law_150 rfl (lv_at hl 0 rfl) ?_
  refine lv_iload_n hx hb dL_law_151 rfl (lv_at hl 3 rfl) ?_
  refine z_ic hx hb dL_law_152 (by decide) (fun v152 h152 => ?_)
  refine z_addE hx hb dL_law_153 (by omega) (fun v153 h153 => ?_)
  refine va_sld hx hb hX hbl hbA hS (z_in (by omega) (by omega)) dL_law_154 ?_
  refine lv_topi (fun y154 e154 => ?_)
  refine lv_aload_n hx hb dL_law_155 rfl (lv_at hl 0 rfl) ?_
  refine lv_iload_n hx hb dL_law_156 rfl (lv_at hl 3 rfl) ?_
  refine z_ic hx hb dL_law_157 (by decide) (fun v157 h157 => ?_)
  refine z_addE hx hb dL_law_158 (by omega) (fun v158 h158 => ?_)
  refine va_sld hx hb hX hbl hbA hS (z_in (by omega) (by omega)) dL_law_159 ?_
  refine lv_topi (fun y159 e159 => ?_)
  refine lv_aload_n hx hb dL_law_160 rfl (lv_at hl 0 rfl) ?_
  refine lv_iload_n hx hb dL_law_161 rfl (lv_at hl 3 rfl) ?_
  refine z_ic hx hb dL_law_162 (by decide) (fun v162 h162 => ?_)
  refine z_addE hx hb dL_law_163 (by omega) (fun v163 h163 => ?_)
  refine va_sld hx hb hX hbl hbA hS (z_in (by omega) (by omega)) dL_law_164 ?_
  refine lv_topi (fun y164 e164 => ?_)
  refine lv_aload_n hx hb dL_law_165 rfl (lv_at hl 0 rfl) ?_
  refine lv_iload_n hx hb dL_law_166 rfl (lv_at hl 3 rfl) ?_
  refine z_ic hx hb dL_law_167 (by decide) (fun v167 h167 => ?_)
  refine z_addE hx hb dL_law_168 (by omega) (fun v168 h168 => ?_)
  refine va_sld hx hb hX hbl hbA hS (z_in (by omega) (by omega)) dL_law_169 ?_
  refine lv_topi (fun y169 e169 => ?_)
  refine lv_aload_n hx hb dL_law_170 rfl (lv_at hl 0 rfl) ?_
  refine lv_iload_n hx hb dL_law_171 rfl (lv_at hl 3 rfl) ?_
  refine z_ic hx hb dL_law_172 (by decide) (fun v172 h172 => ?_)
  refine z_addE hx hb dL_law_173 (by omega) (fun v173 h173 => ?_)
  refine va_sld hx hb hX hbl hbA hS (z_in (by omega) (by omega)) dL_law_174 ?_
  refine lv_topi (fun y174 e174 => ?_)
  obtain ⟨_, _, _, _, _, _, _, _, _, _, _, _, _, _, _, _, k175, _, _, _, _, _, _, _, _, _, _, _, _, _, _, _, _, _, _, _, _, _, _⟩ := mg_Mo hO2
  refine u_ci (z_rV (q0 := 0) (As := [.int y154, .int y159, .int y164, .int y169, .int y174]) (rest := [.int r146]) ⟨hx, hb, hml, hown, hts⟩ (c_X8_room l D cy a2 cnt nd wn S By Ah hJ2 y154 y159 y164 y169 y174) (cwV 5 hts (g_V0 mw_546 mw_547 mw_548 mw_324 mw_549) rfl rfl rfl (by decide +kernel) ⟨Nat.le_of_ble_eq_true rfl, Nat.le_of_ble_eq_true rfl⟩) hK hN hO2 hP2 (by decide) k175 rfl rfl hl.1 rfl (Nat.le_of_ble_eq_true rfl) dL_law_175 ⟨by decide, by decide⟩) hS hg2 hap2 hP1 (fun r175 c2_175 H locs w175 hP2 hP1 hS => ?_)
  have z154 : y154 = y125 := by rw [e154, e125, show v153 = v124 from z_toI (by omega)]
  have z159 : y159 = y130 := by rw [e159, e130, show v158 = v129 from z_toI (by omega)]
  have z164 : y164 = y135 := by rw [e164, e135, show v163 = v134 from z_toI (by omega)]
  have z169 : y169 = y140 := by rw [e169, e140, show v168 = v139 from z_toI (by omega)]
  have z174 : y174 = y145 := by rw [e174, e145, show v173 = v144 from z_toI (by omega)]
  rw [z154, z159, z164, z169, z174] at w175
  have htie := top_tie w146 w175
  refine z_icmp_eq (tgt := 1004) hx hb dL_law_178 (by decide) (fun c178 => ?_) (fun c178 => ?_)
  · skip
    obtain ⟨_, cnt2, hO1, hO2⟩ := htie
    exact kk _ _ ⟨cnt2, _, _, gOK_mono (by omega) hO1, hO2, hP1, hP2⟩ hS
  · exact absurd htie.1 c178
set_option maxHeartbeats 8000000 in
set_option maxRecDepth 100000 in
theorem lc_1 {p : Program} {l : Launch} {e : Env} {s : State} {m : MethodId} {below : List Frame} {meth : Method} {c : Code} {b L : Nat} {xs : Nat → Int32} {D : va_G} {cy : Nat → ClassId} {a1 a2 : Nat → Nat} {Q : State → Prop} (hL : L ≤ 4096) (C0 : lK p s m meth c b L xs D cy a1 a2) {B : Nat} (hB : 1 ≤ B ∧ B + 60 ≤ 1000000) {x3 : Int32} (hx3 : 0 ≤ x3.toInt ∧ x3.toInt + 8 ≤ (L : Int)) {H : Heap} {locs : List Loc} (hst : lS D cy a1 a2 B H) (hS : va_S (fun q : Nat => s.heap.size ≤ q) s.heap H locs) {ls : Array Slot} (hl : lv_has ls 4 [(0, .ref b), (1, .ref (a1 0)), (2, .ref (a2 0)), (3, .int x3)]) (kk : ∀ (H : Heap) (locs : List Loc), lS D cy a1 a2 (B + 60) H → va_S (fun q : Nat => s.heap.size ≤ q) s.heap H locs → W p l e room_1 s m #[Value.ref b] below meth c H locs 107 4467 Q (F0 m 1004 ls [])) : W p l e room_1 s m #[Value.ref b] below meth c H locs 107 4467 Q (F0 m 183 ls []) := by
  obtain ⟨⟨hx, hb, hr, hml, hown, hts, hX, hbl, hlocks, hgv⟩, hK, hN, hJ1, hJ2, hap, hg1, hg2⟩ := C0
  have hap2 : ∀ i j, i < 34 → j < 73 → a2 i ≠ a1 j := fun i j h1 h2 h3 => hap j i h2 h1 h3.symm
  have hts : ∀ w ∈ wsL_law, w.before #[Value.ref b] s = true := fun w h => hts w (wsL_law_in w h)
  have hbA : ¬ (fun q : Nat => s.heap.size ≤ q) b := Nat.not_le.mpr hbl
  obtain ⟨cnt, c1, c2, hO1, ⟨nd, wn, S, By, Ah, hO2⟩, hP1, hP2⟩ := hst
  refine lv_aload_n hx hb dL_law_183 rfl (lv_at hl 1 rfl) ?_
  refine lv_aload_n hx hb dL_law_184 rfl (lv_at hl 0 rfl) ?_
  refine lv_iload_n hx hb dL_law_185 rfl (lv_at hl 3 rfl) ?_
  refine z_ic hx hb dL_law_186 (by decide) (fun v186 h186 => ?_)
  refine z_addE hx hb dL_law_187 (by omega) (fun v187 h187 => ?_)
  refine va_sld hx hb hX hbl hbA hS (z_in (by omega) (by omega)) dL_law_188 ?_
  refine lv_topi (fun y188 e188 => ?_)
  refine lv_aload_n hx hb dL_law_189 rfl (lv_at hl 0 rfl) ?_
  refine lv_iload_n hx hb dL_law_190 rfl (lv_at hl 3 rfl) ?_
  refine z_ic hx hb dL_law_191 (by decide) (fun v191 h191 => ?_)
  refine z_addE hx hb dL_law_192 (by omega) (fun v192 h192 => ?_)
  refine va_sld hx hb hX hbl hbA hS (z_in (by omega) (by omega)) dL_law_193 ?_
  refine lv_topi (fun y193 e193 => ?_)
  refine lv_aload_n hx hb dL_law_194 rfl (lv_at hl 0 rfl) ?_
  refine lv_iload_n hx hb dL_law_195 rfl (lv_at hl 3 rfl) ?_
  refine z_ic hx hb dL_law_196 (by decide) (fun v196 h196 => ?_)
  refine z_addE hx hb dL_law_197 (by omega) (fun v197 h197 => ?_)
  refine va_sld hx hb hX hbl hbA hS (z_in (by omega) (by omega)) dL_law_198 ?_
  refine lv_topi (fun y198 e198 => ?_)
  refine lv_aload_n hx hb dL_law_199 rfl (lv_at hl 0 rfl) ?_
  refine lv_iload_n hx hb dL_law_200 rfl (lv_at hl 3 rfl) ?_
  refine z_ic hx hb dL_law_201 (by decide) (fun v201 h201 => ?_)
  refine z_addE hx hb dL_law_202 (by omega) (fun v202 h202 => ?_)
  refine va_sld hx hb hX hbl hbA hS (z_in (by omega) (by omega)) dL_law_203 ?_
  refine lv_topi (fun y203 e203 => ?_)
  refine lv_aload_n hx hb dL_law_204 rfl (lv_at hl 0 rfl) ?_
  refine lv_iload_n hx hb dL_law_205 rfl (lv_at hl 3 rfl) ?_
  refine z_ic hx hb dL_law_206 (by decide) (fun v206 h206 => ?_)
  refine z_addE hx hb dL_law_207 (by omega) (fun v207 h207 => ?_)
  refine va_sld hx hb hX hbl hbA hS (z_in (by omega) (by omega)) dL_law_208 ?_
  refine lv_topi (fun y208 e208 => ?_)
  obtain ⟨_, _, k209, _, _⟩ := gg_GK hO1
  refine u_ci (z_rV (q0 := 0) (As := [.int y188, .int y193, .int y198, .int y203, .int y208]) (rest := []) ⟨hx, hb, hml, hown, hts⟩ (c_X7_box l D cy a1 cnt B hJ1 y188 y193 y198 y203 y208) (cwV 5 hts (g_V0 mw_550 mw_551 mw_552 mw_2 mw_553) rfl rfl rfl (by decide +kernel) ⟨Nat.le_of_ble_eq_true rfl, Nat.le_of_ble_eq_true rfl⟩) hK hN hO1 hP1 (by decide) k209 rfl rfl hl.1 rfl (Nat.le_of_ble_eq_true rfl) dL_law_209 ⟨by decide, by decide⟩) hS hg1 hap hP2 (fun r209 c1_209 H locs w209 hP1 hP2 hS => ?_)
  have hO1 := w209.1
  refine lv_pop hx hb dL_law_212 rfl ?_
  refine lv_aload_n hx hb dL_law_213 rfl (lv_at hl 2 rfl) ?_
  refine lv_aload_n hx hb dL_law_214 rfl (lv_at hl 0 rfl) ?_
  refine lv_iload_n hx hb dL_law_215 rfl (lv_at hl 3 rfl) ?_
  refine z_ic hx hb dL_law_216 (by decide) (fun v216 h216 => ?_)
  refine z_addE hx hb dL_law_217 (by omega) (fun v217 h217 => ?_)
  refine va_sld hx hb hX hbl hbA hS (z_in (by omega) (by omega)) dL_law_218 ?_
  refine lv_topi (fun y218 e218 => ?_)
  refine lv_aload_n hx hb dL_law_219 rfl (lv_at hl 0 rfl) ?_
  refine lv_iload_n hx hb dL_law_220 rfl (lv_at hl 3 rfl) ?_
  refine z_ic hx hb dL_law_221 (by decide) (fun v221 h221 => ?_)
  refine z_addE hx hb dL_law_222 (by omega) (fun v222 h222 => ?_)
  refine va_sld hx hb hX hbl hbA hS (z_in (by omega) (by omega)) dL_law_223 ?_
  refine lv_topi (fun y223 e223 => ?_)
  refine lv_aload_n hx hb dL_law_224 rfl (lv_at hl 0 rfl) ?_
  refine lv_iload_n hx hb dL_law_225 rfl (lv_at hl 3 rfl) ?_
  refine z_ic hx hb dL_law_226 (by decide) (fun v226 h226 => ?_)
  refine z_addE hx hb dL_law_227 (by omega) (fun v227 h227 => ?_)
  refine va_sld hx hb hX hbl hbA hS (z_in (by omega) (by omega)) dL_law_228 ?_
  refine lv_topi (fun y228 e228 => ?_)
  refine lv_aload_n hx hb dL_law_229 rfl (lv_at hl 0 rfl) ?_
  refine lv_iload_n hx hb dL_law_230 rfl (lv_at hl 3 rfl) ?_
  refine z_ic hx hb dL_law_231 (by decide) (fun v231 h231 => ?_)
  refine z_addE hx hb dL_law_232 (by omega) (fun v232 h232 => ?_)
  refine va_sld hx hb hX hbl hbA hS (z_in (by omega) (by omega)) dL_law_233 ?_
  refine lv_topi (fun y233 e233 => ?_)
  refine lv_aload_n hx hb dL_law_234 rfl (lv_at hl 0 rfl) ?_
  refine lv_iload_n hx hb dL_law_235 rfl (lv_at hl 3 rfl) ?_
  refine z_ic hx hb dL_law_236 (by decide) (fun v236 h236 => ?_)
  refine z_addE hx hb dL_law_237 (by omega) (fun v237 h237 => ?_)
  refine va_sld hx hb hX hbl hbA hS (z_in (by omega) (by omega)) dL_law_238 ?_
  refine lv_topi (fun y238 e238 => ?_)
  obtain ⟨_, _, _, _, _, _, _, _, _, _, _, _, _, _, _, _, k239, _, _, _, _, _, _, _, _, _, _, _, _, _, _, _, _, _, _, _, _, _, _⟩ := mg_Mo hO2
  refine u_ci (z_rV (q0 := 0) (As := [.int y218, .int y223, .int y228, .int y233, .int y238]) (rest := []) ⟨hx, hb, hml, hown, hts⟩ (c_X8_box l D cy a2 cnt nd wn S By Ah hJ2 y218 y223 y228 y233 y238) (cwV 5 hts (g_V0 mw_554 mw_555 mw_556 mw_324 mw_557) rfl rfl rfl (by decide +kernel) ⟨Nat.le_of_ble_eq_true rfl, Nat.le_of_ble_eq_true rfl⟩) hK hN hO2 hP2 (by decide) k239 rfl rfl hl.1 rfl (Nat.le_of_ble_eq_true rfl) dL_law_239 ⟨by decide, by decide⟩) hS hg2 hap2 hP1 (fun r239 c2_239 H locs w239 hP2 hP1 hS => ?_)
  have hO2 := w239.1
  refine lv_pop hx hb dL_law_242 rfl ?_
  refine lv_goto (tgt := 1004) hx hb dL_law_243 (by decide) ?_
  exact kk _ _ ⟨cnt, _, _, (gOK_mono (by omega) hO1), ⟨_, _, _, _, _, hO2⟩, hP1, hP2⟩ hS
set_option maxHeartbeats 8000000 in
set_option maxRecDepth 100000 in
theorem lc_2 {p : Program} {l : Launch} {e : Env} {s : State} {m : MethodId} {below : List Frame} {meth : Method} {c : Code} {b L : Nat} {xs : Nat → Int32} {D : va_G} {cy : Nat → ClassId} {a1 a2 : Nat → Nat} {Q : State → Prop} (hL : L ≤ 4096) (C0 : lK p s m meth c b L xs D cy a1 a2) {B : Nat} (hB : 1 ≤ B ∧ B + 60 ≤ 1000000) {x3 : Int32} (hx3 : 0 ≤ x3.toInt ∧ x3.toInt + 8 ≤ (L : Int)) {H : Heap} {locs : List Loc} (hst : lS D cy a1 a2 B H) (hS : va_S (fun q : Nat => s.heap.size ≤ q) s.heap H locs) {ls : Array Slot} (hl : lv_has ls 4 [(0, .ref b), (1, .ref (a1 0)), (2, .ref (a2 0)), (3, .int x3)]) (kk : ∀ (H : Heap) (locs : List Loc), lS D cy a1 a2 (B + 60) H → va_S (fun q : Nat => s.heap.size ≤ q) s.heap H locs → W p l e room_1 s m #[Value.ref b] below meth c H locs 107 4467 Q (F0 m 1004 ls [])) : W p l e room_1 s m #[Value.ref b] below meth c H locs 107 4467 Q (F0 m 246 ls []) := by
  obtain ⟨⟨hx, hb, hr, hml, hown, hts, hX, hbl, hlocks, hgv⟩, hK, hN, hJ1, hJ2, hap, hg1, hg2⟩ := C0
  have hap2 : ∀ i j, i < 34 → j < 73 → a2 i ≠ a1 j := fun i j h1 h2 h3 => hap j i h2 h1 h3.symm
  have hts : ∀ w ∈ wsL_law, w.before #[Value.ref b] s = true := fun w h => hts w (wsL_law_in w h)
  have hbA : ¬ (fun q : Nat => s.heap.size ≤ q) b := Nat.not_le.mpr hbl
  obtain ⟨cnt, c1, c2, hO1, ⟨nd, wn, S, By, Ah, hO2⟩, hP1, hP2⟩ := hst
  refine lv_aload_n hx hb dL_law_246 rfl (lv_at hl 1 rfl) ?_
  refine lv_aload_n hx hb dL_law_247 rfl (lv_at hl 0 rfl) ?_
  refine lv_iload_n hx hb dL_law_248 rfl (lv_at hl 3 rfl) ?_
  refine z_ic hx hb dL_law_249 (by decide) (fun v249 h249 => ?_)
  refine z_addE hx hb dL_law_250 (by omega) (fun v250 h250 => ?_)
  refine va_sld hx hb hX hbl hbA hS (z_in (by omega) (by omega)) dL_law_251 ?_
  refine lv_topi (fun y251 e251 => ?_)
  obtain ⟨_, _, k252, _, _⟩ := gg_GK hO1
  refine u_ci (z_rV (q0 := 0) (As := [.int y251]) (rest := []) ⟨hx, hb, hml, hown, hts⟩ (c_X7_take l D cy a1 cnt B hJ1 y251) (cwV 1 hts (g_V0 mw_558 mw_559 mw_560 mw_2 mw_561) rfl rfl rfl (by decide +kernel) ⟨Nat.le_of_ble_eq_true rfl, Nat.le_of_ble_eq_true rfl⟩) hK hN hO1 hP1 (by decide) k252 rfl rfl hl.1 rfl (Nat.le_of_ble_eq_true rfl) dL_law_252 ⟨by decide, by decide⟩) hS hg1 hap hP2 (fun r252 c1_252 H locs w252 hP1 hP2 hS => ?_)
  have hO1 := w252.1
  refine lv_pop hx hb dL_law_255 rfl ?_
  refine lv_aload_n hx hb dL_law_256 rfl (lv_at hl 2 rfl) ?_
  refine lv_aload_n hx hb dL_law_257 rfl (lv_at hl 0 rfl) ?_
  refine lv_iload_n hx hb dL_law_258 rfl (lv_at hl 3 rfl) ?_
  refine z_ic hx hb dL_law_259 (by decide) (fun v259 h259 => ?_)
  refine z_addE hx hb dL_law_260 (by omega) (fun v260 h260 => ?_)
  refine va_sld hx hb hX hbl hbA hS (z_in (by omega) (by omega)) dL_law_261 ?_
  refine lv_topi (fun y261 e261 => ?_)
  obtain ⟨_, _, _, _, _, _, _, _, _, _, _, _, _, _, _, _, k262, _, _, _, _, _, _, _, _, _, _, _, _, _, _, _, _, _, _, _, _, _, _⟩ := mg_Mo hO2
  refine u_ci (z_rV (q0 := 0) (As := [.int y261]) (rest := []) ⟨hx, hb, hml, hown, hts⟩ (c_X8_take l D cy a2 cnt nd wn S By Ah hJ2 y261) (cwV 1 hts (g_V0 mw_562 mw_563 mw_564 mw_324 mw_565) rfl rfl rfl (by decide +kernel) ⟨Nat.le_of_ble_eq_true rfl, Nat.le_of_ble_eq_true rfl⟩) hK hN hO2 hP2 (by decide) k262 rfl rfl hl.1 rfl (Nat.le_of_ble_eq_true rfl) dL_law_262 ⟨by decide, by decide⟩) hS hg2 hap2 hP1 (fun r262 c2_262 H locs w262 hP2 hP1 hS => ?_)
  have hO2 := w262.1
  refine lv_pop hx hb dL_law_265 rfl ?_
  refine lv_goto (tgt := 1004) hx hb dL_law_266 (by decide) ?_
  exact kk _ _ ⟨cnt, _, _, (gOK_mono (by omega) hO1), ⟨_, _, _, _, _, hO2⟩, hP1, hP2⟩ hS
set_option maxHeartbeats 8000000 in
set_option maxRecDepth 100000 in
theorem lc_3 {p : Program} {l : Launch} {e : Env} {s : State} {m : MethodId} {below : List Frame} {meth : Method} {c : Code} {b L : Nat} {xs : Nat → Int32} {D : va_G} {cy : Nat → ClassId} {a1 a2 : Nat → Nat} {Q : State → Prop} (hL : L ≤ 4096) (C0 : lK p s m meth c b L xs D cy a1 a2) {B : Nat} (hB : 1 ≤ B ∧ B + 60 ≤ 1000000) {x3 : Int32} (hx3 : 0 ≤ x3.toInt ∧ x3.toInt + 8 ≤ (L : Int)) {H : Heap} {locs : List Loc} (hst : lS D cy a1 a2 B H) (hS : va_S (fun q : Nat => s.heap.size ≤ q) s.heap H locs) {ls : Array Slot} (hl : lv_has ls 4 [(0, .ref b), (1, .ref (a1 0)), (2, .ref (a2 0)), (3, .int x3)]) (kk : ∀ (H : Heap) (locs : List Loc), lS D cy a1 a2 (B + 60) H → va_S (fun q : Nat => s.heap.size ≤ q) s.heap H locs → W p l e room_1 s m #[Value.ref b] below meth c H locs 107 4467 Q (F0 m 1004 ls [])) : W p l e room_1 s m #[Value.ref b] below meth c H locs 107 4467 Q (F0 m 269 ls []) := by
  obtain ⟨⟨hx, hb, hr, hml, hown, hts, hX, hbl, hlocks, hgv⟩, hK, hN, hJ1, hJ2, hap, hg1, hg2⟩ := C0
  have hap2 : ∀ i j, i < 34 → j < 73 → a2 i ≠ a1 j := fun i j h1 h2 h3 => hap j i h2 h1 h3.symm
  have hts : ∀ w ∈ wsL_law, w.before #[Value.ref b] s = true := fun w h => hts w (wsL_law_in w h)
  have hbA : ¬ (fun q : Nat => s.heap.size ≤ q) b := Nat.not_le.mpr hbl
  obtain ⟨cnt, c1, c2, hO1, ⟨nd, wn, S, By, Ah, hO2⟩, hP1, hP2⟩ := hst
  refine lv_aload_n hx hb dL_law_269 rfl (lv_at hl 1 rfl) ?_
  refine lv_aload_n hx hb dL_law_270 rfl (lv_at hl 0 rfl) ?_
  refine lv_iload_n hx hb dL_law_271 rfl (lv_at hl 3 rfl) ?_
  refine z_ic hx hb dL_law_272 (by decide) (fun v272 h272 => ?_)
  refine z_addE hx hb dL_law_273 (by omega) (fun v273 h273 => ?_)
  refine va_sld hx hb hX hbl hbA hS (z_in (by omega) (by omega)) dL_law_274 ?_
  refine lv_topi (fun y274 e274 => ?_)
  refine lv_aload_n hx hb dL_law_275 rfl (lv_at hl 0 rfl) ?_
  refine lv_iload_n hx hb dL_law_276 rfl (lv_at hl 3 rfl) ?_
  refine z_ic hx hb dL_law_277 (by decide) (fun v277 h277 => ?_)
  refine z_addE hx hb dL_law_278 (by omega) (fun v278 h278 => ?_)
  refine va_sld hx hb hX hbl hbA hS (z_in (by omega) (by omega)) dL_law_279 ?_
  refine lv_topi (fun y279 e279 => ?_)
  refine lv_aload_n hx hb dL_law_280 rfl (lv_at hl 0 rfl) ?_
  refine lv_iload_n hx hb dL_law_281 rfl (lv_at hl 3 rfl) ?_
  refine z_ic hx hb dL_law_282 (by decide) (fun v282 h282 => ?_)
  refine z_addE hx hb dL_law_283 (by omega) (fun v283 h283 => ?_)
  refine va_sld hx hb hX hbl hbA hS (z_in (by omega) (by omega)) dL_law_284 ?_
  refine lv_topi (fun y284 e284 => ?_)
  refine lv_aload_n hx hb dL_law_285 rfl (lv_at hl 0 rfl) ?_
  refine lv_iload_n hx hb dL_law_286 rfl (lv_at hl 3 rfl) ?_
  refine z_ic hx hb dL_law_287 (by decide) (fun v287 h287 => ?_)
  refine z_addE hx hb dL_law_288 (by omega) (fun v288 h288 => ?_)
  refine va_sld hx hb hX hbl hbA hS (z_in (by omega) (by omega)) dL_law_289 ?_
  refine lv_topi (fun y289 e289 => ?_)
  refine lv_aload_n hx hb dL_law_290 rfl (lv_at hl 0 rfl) ?_
  refine lv_iload_n hx hb dL_law_291 rfl (lv_at hl 3 rfl) ?_
  refine z_ic hx hb dL_law_292 (by decide) (fun v292 h292 => ?_)
  refine z_addE hx hb dL_law_293 (by omega) (fun v293 h293 => ?_)
  refine va_sld hx hb hX hbl hbA hS (z_in (by omega) (by omega)) dL_law_294 ?_
  refine lv_topi (fun y294 e294 => ?_)
  obtain ⟨_, _, k295, _, _⟩ := gg_GK hO1
  refine u_ci (z_rV (q0 := 0) (As := [.int y274, .int y279, .int y284, .int y289, .int y294]) (rest := []) ⟨hx, hb, hml, hown, hts⟩ (c_X7_door l D cy a1 cnt B hJ1 y274 y279 y284 y289 y294) (cwV 5 hts (g_V0 mw_566 mw_567 mw_568 mw_2 mw_569) rfl rfl rfl (by decide +kernel) ⟨Nat.le_of_ble_eq_true rfl, Nat.le_of_ble_eq_true rfl⟩) hK hN hO1 hP1 (by decide) k295 rfl rfl hl.1 rfl (Nat.le_of_ble_eq_true rfl) dL_law_295 ⟨by decide, by decide⟩) hS hg1 hap hP2 (fun r295 c1_295 H locs w295 hP1 hP2 hS => ?_)
  refine lv_pop hx hb dL_law_298 rfl ?_
  refine lv_aload_n hx hb dL_law_299 rfl (lv_at hl 2 rfl) ?_
  refine lv_aload_n hx hb dL_law_300 rfl (lv_at hl 0 rfl) ?_
  refine lv_iload_n hx hb dL_law_301 rfl (lv_at hl 3 rfl) ?_
  refine z_ic hx hb dL_law_302 (by decide) (fun v302 h302 => ?_)
  refine z_addE hx hb dL_law_303 (by omega) (fun v303 h303 => ?_)
  refine va_sld hx hb hX hbl hbA hS (z_in (by omega) (by omega)) dL_law_304 ?_
  refine lv_topi (fun y304 e304 => ?_)
  refine lv_aload_n hx hb dL_law_305 rfl (lv_at hl 0 rfl) ?_
  refine lv_iload_n hx hb dL_law_306 rfl (lv_at hl 3 rfl) ?_
  refine z_ic hx hb dL_law_307 (by decide) (fun v307 h307 => ?_)
  refine z_addE hx hb dL_law_308 (by omega) (fun v308 h308 => ?_)
  refine va_sld hx hb hX hbl hbA hS (z_in (by omega) (by omega)) dL_law_309 ?_
  refine lv_topi (fun y309 e309 => ?_)
  refine lv_aload_n hx hb dL_law_310 rfl (lv_at hl 0 rfl) ?_
  refine lv_iload_n hx hb dL_law_311 rfl (lv_at hl 3 rfl) ?_
  refine z_ic hx hb dL_law_312 (by decide) (fun v312 h312 => ?_)
  refine z_addE hx hb dL_law_313 (by omega) (fun v313 h313 => ?_)
  refine va_sld hx hb hX hbl hbA hS (z_in (by omega) (by omega)) dL_law_314 ?_
  refine lv_topi (fun y314 e314 => ?_)
  refine lv_aload_n hx hb dL_law_315 rfl (lv_at hl 0 rfl) ?_
  refine lv_iload_n hx hb dL_law_316 rfl (lv_at hl 3 rfl) ?_
  refine z_ic hx hb dL_law_317 (by decide) (fun v317 h317 => ?_)
  refine z_addE hx hb dL_law_318 (by omega) (fun v318 h318 => ?_)
  refine va_sld hx hb hX hbl hbA hS (z_in (by omega) (by omega)) dL_law_319 ?_
  refine lv_topi (fun y319 e319 => ?_)
  refine lv_aload_n hx hb dL_law_320 rfl (lv_at hl 0 rfl) ?_
  refine lv_iload_n hx hb dL_law_321 rfl (lv_at hl 3 rfl) ?_
  refine z_ic hx hb dL_law_322 (by decide) (fun v322 h322 => ?_)
  refine z_addE hx hb dL_law_323 (by omega) (fun v323 h323 => ?_)
  refine va_sld hx hb hX hbl hbA hS (z_in (by omega) (by omega)) dL_law_324 ?_
  refine lv_topi (fun y324 e324 => ?_)
  obtain ⟨_, _, _, _, _, _, _, _, _, _, _, _, _, _, _, _, k325, _, _, _, _, _, _, _, _, _, _, _, _, _, _, _, _, _, _, _, _, _, _⟩ := mg_Mo hO2
  refine u_ci (z_rV (q0 := 0) (As := [.int y304, .int y309, .int y314, .int y319, .int y324]) (rest := []) ⟨hx, hb, hml, hown, hts⟩ (c_X8_door l D cy a2 cnt nd wn S By Ah hJ2 y304 y309 y314 y319 y324) (cwV 5 hts (g_V0 mw_570 mw_571 mw_572 mw_324 mw_573) rfl rfl rfl (by decide +kernel) ⟨Nat.le_of_ble_eq_true rfl, Nat.le_of_ble_eq_true rfl⟩) hK hN hO2 hP2 (by decide) k325 rfl rfl hl.1 rfl (Nat.le_of_ble_eq_true rfl) dL_law_325 ⟨by decide, by decide⟩) hS hg2 hap2 hP1 (fun r325 c2_325 H locs w325 hP2 hP1 hS => ?_)
  have z304 : y304 = y274 := by rw [e304, e274, show v303 = v273 from z_toI (by omega)]
  have z309 : y309 = y279 := by rw [e309, e279, show v308 = v278 from z_toI (by omega)]
  have z314 : y314 = y284 := by rw [e314, e284, show v313 = v283 from z_toI (by omega)]
  have z319 : y319 = y289 := by rw [e319, e289, show v318 = v288 from z_toI (by omega)]
  have z324 : y324 = y294 := by rw [e324, e294, show v323 = v293 from z_toI (by omega)]
  rw [z304, z309, z314, z319, z324] at w325
  have htie := top_tie w295 w325
  refine lv_pop hx hb dL_law_328 rfl ?_
  refine lv_goto (tgt := 1004) hx hb dL_law_329 (by decide) ?_
  obtain ⟨_, cnt2, hO1, hO2⟩ := htie
  exact kk _ _ ⟨cnt2, _, _, gOK_mono (by omega) hO1, hO2, hP1, hP2⟩ hS
set_option maxHeartbeats 8000000 in
set_option maxRecDepth 100000 in
theorem lc_4 {p : Program} {l : Launch} {e : Env} {s : State} {m : MethodId} {below : List Frame} {meth : Method} {c : Code} {b L : Nat} {xs : Nat → Int32} {D : va_G} {cy : Nat → ClassId} {a1 a2 : Nat → Nat} {Q : State → Prop} (hL : L ≤ 4096) (C0 : lK p s m meth c b L xs D cy a1 a2) {B : Nat} (hB : 1 ≤ B ∧ B + 60 ≤ 1000000) {x3 : Int32} (hx3 : 0 ≤ x3.toInt ∧ x3.toInt + 8 ≤ (L : Int)) {H : Heap} {locs : List Loc} (hst : lS D cy a1 a2 B H) (hS : va_S (fun q : Nat => s.heap.size ≤ q) s.heap H locs) {ls : Array Slot} (hl : lv_has ls 4 [(0, .ref b), (1, .ref (a1 0)), (2, .ref (a2 0)), (3, .int x3)]) (kk : ∀ (H : Heap) (locs : List Loc), lS D cy a1 a2 (B + 60) H → va_S (fun q : Nat => s.heap.size ≤ q) s.heap H locs → W p l e room_1 s m #[Value.ref b] below meth c H locs 107 4467 Q (F0 m 1004 ls [])) : W p l e room_1 s m #[Value.ref b] below meth c H locs 107 4467 Q (F0 m 332 ls []) := by
  obtain ⟨⟨hx, hb, hr, hml, hown, hts, hX, hbl, hlocks, hgv⟩, hK, hN, hJ1, hJ2, hap, hg1, hg2⟩ := C0
  have hap2 : ∀ i j, i < 34 → j < 73 → a2 i ≠ a1 j := fun i j h1 h2 h3 => hap j i h2 h1 h3.symm
  have hts : ∀ w ∈ wsL_law, w.before #[Value.ref b] s = true := fun w h => hts w (wsL_law_in w h)
  have hbA : ¬ (fun q : Nat => s.heap.size ≤ q) b := Nat.not_le.mpr hbl
  obtain ⟨cnt, c1, c2, hO1, ⟨nd, wn, S, By, Ah, hO2⟩, hP1, hP2⟩ := hst
  refine lv_aload_n hx hb dL_law_332 rfl (lv_at hl 1 rfl) ?_
  refine lv_aload_n hx hb dL_law_333 rfl (lv_at hl 0 rfl) ?_
  refine lv_iload_n hx hb dL_law_334 rfl (lv_at hl 3 rfl) ?_
  refine z_ic hx hb dL_law_335 (by decide) (fun v335 h335 => ?_)
  refine z_addE hx hb dL_law_336 (by omega) (fun v336 h336 => ?_)
  refine va_sld hx hb hX hbl hbA hS (z_in (by omega) (by omega)) dL_law_337 ?_
  refine lv_topi (fun y337 e337 => ?_)
  refine lv_aload_n hx hb dL_law_338 rfl (lv_at hl 0 rfl) ?_
  refine lv_iload_n hx hb dL_law_339 rfl (lv_at hl 3 rfl) ?_
  refine z_ic hx hb dL_law_340 (by decide) (fun v340 h340 => ?_)
  refine z_addE hx hb dL_law_341 (by omega) (fun v341 h341 => ?_)
  refine va_sld hx hb hX hbl hbA hS (z_in (by omega) (by omega)) dL_law_342 ?_
  refine lv_topi (fun y342 e342 => ?_)
  refine z_if_eq (tgt := 350) hx hb dL_law_343 (by decide) (fun c343 => ?_) (fun c343 => ?_)
  · skip
    refine z_ic hx hb dL_law_350 (by decide) (fun v350 h350 => ?_)
    obtain ⟨_, _, k351, _, _⟩ := gg_GK hO1
    refine u_ci (z_rV (q0 := 0) (As := [.int y337, .int v350]) (rest := []) ⟨hx, hb, hml, hown, hts⟩ (c_X7_shut l D cy a1 cnt B hJ1 y337 v350 (by omega)) (cwV 2 hts (g_V0 mw_574 mw_575 mw_576 mw_2 mw_577) rfl rfl rfl (by decide +kernel) ⟨Nat.le_of_ble_eq_true rfl, Nat.le_of_ble_eq_true rfl⟩) hK hN hO1 hP1 (by decide) k351 rfl rfl hl.1 rfl (Nat.le_of_ble_eq_true rfl) dL_law_351 ⟨by decide, by decide⟩) hS hg1 hap hP2 (fun r351 c1_351 H locs w351 hP1 hP2 hS => ?_)
    have hO1 := w351.1
    refine lv_pop hx hb dL_law_354 rfl ?_
    refine lv_aload_n hx hb dL_law_355 rfl (lv_at hl 2 rfl) ?_
    refine lv_aload_n hx hb dL_law_356 rfl (lv_at hl 0 rfl) ?_
    refine lv_iload_n hx hb dL_law_357 rfl (lv_at hl 3 rfl) ?_
    refine z_ic hx hb dL_law_358 (by decide) (fun v358 h358 => ?_)
    refine z_addE hx hb dL_law_359 (by omega) (fun v359 h359 => ?_)
    refine va_sld hx hb hX hbl hbA hS (z_in (by omega) (by omega)) dL_law_360 ?_
    refine lv_topi (fun y360 e360 => ?_)
    refine lv_aload_n hx hb dL_law_361 rfl (lv_at hl 0 rfl) ?_
    refine lv_iload_n hx hb dL_law_362 rfl (lv_at hl 3 rfl) ?_
    refine z_ic hx hb dL_law_363 (by decide) (fun v363 h363 => ?_)
    refine z_addE hx hb dL_law_364 (by omega) (fun v364 h364 => ?_)
    refine va_sld hx hb hX hbl hbA hS (z_in (by omega) (by omega)) dL_law_365 ?_
    refine lv_topi (fun y365 e365 => ?_)
    refine z_if_eq (tgt := 373) hx hb dL_law_366 (by decide) (fun c366 => ?_) (fun c366 => ?_)
    · skip
      refine z_ic hx hb dL_law_373 (by decide) (fun v373 h373 => ?_)
      obtain ⟨_, _, _, _, _, _, _, _, _, _, _, _, _, _, _, _, k374, _, _, _, _, _, _, _, _, _, _, _, _, _, _, _, _, _, _, _, _, _, _⟩ := mg_Mo hO2
      refine u_ci (z_rV (q0 := 0) (As := [.int y360, .int v373]) (rest := []) ⟨hx, hb, hml, hown, hts⟩ (c_X8_shut l D cy a2 cnt nd wn S By Ah hJ2 y360 v373 (by omega)) (cwV 2 hts (g_V0 mw_578 mw_579 mw_580 mw_324 mw_581) rfl rfl rfl (by decide +kernel) ⟨Nat.le_of_ble_eq_true rfl, Nat.le_of_ble_eq_true rfl⟩) hK hN hO2 hP2 (by decide) k374 rfl rfl hl.1 rfl (Nat.le_of_ble_eq_true rfl) dL_law_374 ⟨by decide, by decide⟩) hS hg2 hap2 hP1 (fun r374 c2_374 H locs w374 hP2 hP1 hS => ?_)
      have hO2 := w374.1
      refine lv_pop hx hb dL_law_377 rfl ?_
      refine lv_goto (tgt := 1004) hx hb dL_law_378 (by decide) ?_
      exact kk _ _ ⟨cnt, _, _, (gOK_mono (by omega) hO1), ⟨_, _, _, _, _, hO2⟩, hP1, hP2⟩ hS
    · skip
      refine z_ic hx hb dL_law_369 (by decide) (fun v369 h369 => ?_)
      refine lv_goto (tgt := 374) hx hb dL_law_370 (by decide) ?_
      obtain ⟨_, _, _, _, _, _, _, _, _, _, _, _, _, _, _, _, k374, _, _, _, _, _, _, _, _, _, _, _, _, _, _, _, _, _, _, _, _, _, _⟩ := mg_Mo hO2
      refine u_ci (z_rV (q0 := 0) (As := [.int y360, .int v369]) (rest := []) ⟨hx, hb, hml, hown, hts⟩ (c_X8_shut l D cy a2 cnt nd wn S By Ah hJ2 y360 v369 (by omega)) (cwV 2 hts (g_V0 mw_578 mw_579 mw_580 mw_324 mw_581) rfl rfl rfl (by decide +kernel) ⟨Nat.le_of_ble_eq_true rfl, Nat.le_of_ble_eq_true rfl⟩) hK hN hO2 hP2 (by decide) k374 rfl rfl hl.1 rfl (Nat.le_of_ble_eq_true rfl) dL_law_374 ⟨by decide, by decide⟩) hS hg2 hap2 hP1 (fun r374 c2_374 H locs w374 hP2 hP1 hS => ?_)
      have hO2 := w374.1
      refine lv_pop hx hb dL_law_377 rfl ?_
      refine lv_goto (tgt := 1004) hx hb dL_law_378 (by decide) ?_
      exact kk _ _ ⟨cnt, _, _, (gOK_mono (by omega) hO1), ⟨_, _, _, _, _, hO2⟩, hP1, hP2⟩ hS
  · skip
    refine z_ic hx hb dL_law_346 (by decide) (fun v346 h346 => ?_)
    refine lv_goto (tgt := 351) hx hb dL_law_347 (by decide) ?_
    obtain ⟨_, _, k351, _, _⟩ := gg_GK hO1
    refine u_ci (z_rV (q0 := 0) (As := [.int y337, .int v346]) (rest := []) ⟨hx, hb, hml, hown, hts⟩ (c_X7_shut l D cy a1 cnt B hJ1 y337 v346 (by omega)) (cwV 2 hts (g_V0 mw_574 mw_575 mw_576 mw_2 mw_577) rfl rfl rfl (by decide +kernel) ⟨Nat.le_of_ble_eq_true rfl, Nat.le_of_ble_eq_true rfl⟩) hK hN hO1 hP1 (by decide) k351 rfl rfl hl.1 rfl (Nat.le_of_ble_eq_true rfl) dL_law_351 ⟨by decide, by decide⟩) hS hg1 hap hP2 (fun r351 c1_351 H locs w351 hP1 hP2 hS => ?_)
    have hO1 := w351.1
    refine lv_pop hx hb dL_law_354 rfl ?_
    refine lv_aload_n hx hb dL_law_355 rfl (lv_at hl 2 rfl) ?_
    refine lv_aload_n hx hb dL_law_356 rfl (lv_at hl 0 rfl) ?_
    refine lv_iload_n hx hb dL_law_357 rfl (lv_at hl 3 rfl) ?_
    refine z_ic hx hb dL_law_358 (by decide) (fun v358 h358 => ?_)
    refine z_addE hx hb dL_law_359 (by omega) (fun v359 h359 => ?_)
    refine va_sld hx hb hX hbl hbA hS (z_in (by omega) (by omega)) dL_law_360 ?_
    refine lv_topi (fun y360 e360 => ?_)
    refine lv_aload_n hx hb dL_law_361 rfl (lv_at hl 0 rfl) ?_
    refine lv_iload_n hx hb dL_law_362 rfl (lv_at hl 3 rfl) ?_
    refine z_ic hx hb dL_law_363 (by decide) (fun v363 h363 => ?_)
    refine z_addE hx hb dL_law_364 (by omega) (fun v364 h364 => ?_)
    refine va_sld hx hb hX hbl hbA hS (z_in (by omega) (by omega)) dL_law_365 ?_
    refine lv_topi (fun y365 e365 => ?_)
    refine z_if_eq (tgt := 373) hx hb dL_law_366 (by decide) (fun c366 => ?_) (fun c366 => ?_)
    · skip
      refine z_ic hx hb dL_law_373 (by decide) (fun v373 h373 => ?_)
      obtain ⟨_, _, _, _, _, _, _, _, _, _, _, _, _, _, _, _, k374, _, _, _, _, _, _, _, _, _, _, _, _, _, _, _, _, _, _, _, _, _, _⟩ := mg_Mo hO2
      refine u_ci (z_rV (q0 := 0) (As := [.int y360, .int v373]) (rest := []) ⟨hx, hb, hml, hown, hts⟩ (c_X8_shut l D cy a2 cnt nd wn S By Ah hJ2 y360 v373 (by omega)) (cwV 2 hts (g_V0 mw_578 mw_579 mw_580 mw_324 mw_581) rfl rfl rfl (by decide +kernel) ⟨Nat.le_of_ble_eq_true rfl, Nat.le_of_ble_eq_true rfl⟩) hK hN hO2 hP2 (by decide) k374 rfl rfl hl.1 rfl (Nat.le_of_ble_eq_true rfl) dL_law_374 ⟨by decide, by decide⟩) hS hg2 hap2 hP1 (fun r374 c2_374 H locs w374 hP2 hP1 hS => ?_)
      have hO2 := w374.1
      refine lv_pop hx hb dL_law_377 rfl ?_
      refine lv_goto (tgt := 1004) hx hb dL_law_378 (by decide) ?_
      exact kk _ _ ⟨cnt, _, _, (gOK_mono (by omega) hO1), ⟨_, _, _, _, _, hO2⟩, hP1, hP2⟩ hS
    · skip
      refine z_ic hx hb dL_law_369 (by decide) (fun v369 h369 => ?_)
      refine lv_goto (tgt := 374) hx hb dL_law_370 (by decide) ?_
      obtain ⟨_, _, _, _, _, _, _, _, _, _, _, _, _, _, _, _, k374, _, _, _, _, _, _, _, _, _, _, _, _, _, _, _, _, _, _, _, _, _, _⟩ := mg_Mo hO2
      refine u_ci (z_rV (q0 := 0) (As := [.int y360, .int v369]) (rest := []) ⟨hx, hb, hml, hown, hts⟩ (c_X8_shut l D cy a2 cnt nd wn S By Ah hJ2 y360 v369 (by omega)) (cwV 2 hts (g_V0 mw_578 mw_579 mw_580 mw_324 mw_581) rfl rfl rfl (by decide +kernel) ⟨Nat.le_of_ble_eq_true rfl, Nat.le_of_ble_eq_true rfl⟩) hK hN hO2 hP2 (by decide) k374 rfl rfl hl.1 rfl (Nat.le_of_ble_eq_true rfl) dL_law_374 ⟨by decide, by decide⟩) hS hg2 hap2 hP1 (fun r374 c2_374 H locs w374 hP2 hP1 hS => ?_)
      have hO2 := w374.1
      refine lv_pop hx hb dL_law_377 rfl ?_
      refine lv_goto (tgt := 1004) hx hb dL_law_378 (by decide) ?_
      exact kk _ _ ⟨cnt, _, _, (gOK_mono (by omega) hO1), ⟨_, _, _, _, _, hO2⟩, hP1, hP2⟩ hS
set_option maxHeartbeats 8000000 in
set_option maxRecDepth 100000 in
theorem lc_5 {p : Program} {l : Launch} {e : Env} {s : State} {m : MethodId} {below : List Frame} {meth : Method} {c : Code} {b L : Nat} {xs : Nat → Int32} {D : va_G} {cy : Nat → ClassId} {a1 a2 : Nat → Nat} {Q : State → Prop} (hL : L ≤ 4096) (C0 : lK p s m meth c b L xs D cy a1 a2) {B : Nat} (hB : 1 ≤ B ∧ B + 60 ≤ 1000000) {x3 : Int32} (hx3 : 0 ≤ x3.toInt ∧ x3.toInt + 8 ≤ (L : Int)) {H : Heap} {locs : List Loc} (hst : lS D cy a1 a2 B H) (hS : va_S (fun q : Nat => s.heap.size ≤ q) s.heap H locs) {ls : Array Slot} (hl : lv_has ls 4 [(0, .ref b), (1, .ref (a1 0)), (2, .ref (a2 0)), (3, .int x3)]) (kk : ∀ (H : Heap) (locs : List Loc), lS D cy a1 a2 (B + 60) H → va_S (fun q : Nat => s.heap.size ≤ q) s.heap H locs → W p l e room_1 s m #[Value.ref b] below meth c H locs 107 4467 Q (F0 m 1004 ls [])) : W p l e room_1 s m #[Value.ref b] below meth c H locs 107 4467 Q (F0 m 381 ls []) := by
  obtain ⟨⟨hx, hb, hr, hml, hown, hts, hX, hbl, hlocks, hgv⟩, hK, hN, hJ1, hJ2, hap, hg1, hg2⟩ := C0
  have hap2 : ∀ i j, i < 34 → j < 73 → a2 i ≠ a1 j := fun i j h1 h2 h3 => hap j i h2 h1 h3.symm
  have hts : ∀ w ∈ wsL_law, w.before #[Value.ref b] s = true := fun w h => hts w (wsL_law_in w h)
  have hbA : ¬ (fun q : Nat => s.heap.size ≤ q) b := Nat.not_le.mpr hbl
  obtain ⟨cnt, c1, c2, hO1, ⟨nd, wn, S, By, Ah, hO2⟩, hP1, hP2⟩ := hst
  refine lv_aload_n hx hb dL_law_381 rfl (lv_at hl 1 rfl) ?_
  refine lv_aload_n hx hb dL_law_382 rfl (lv_at hl 0 rfl) ?_
  refine lv_iload_n hx hb dL_law_383 rfl (lv_at hl 3 rfl) ?_
  refine z_ic hx hb dL_law_384 (by decide) (fun v384 h384 => ?_)
  refine z_addE hx hb dL_law_385 (by omega) (fun v385 h385 => ?_)
  refine va_sld hx hb hX hbl hbA hS (z_in (by omega) (by omega)) dL_law_386 ?_
  refine lv_topi (fun y386 e386 => ?_)
  refine lv_aload_n hx hb dL_law_387 rfl (lv_at hl 0 rfl) ?_
  refine lv_iload_n hx hb dL_law_388 rfl (lv_at hl 3 rfl) ?_
  refine z_ic hx hb dL_law_389 (by decide) (fun v389 h389 => ?_)
  refine z_addE hx hb dL_law_390 (by omega) (fun v390 h390 => ?_)
  refine va_sld hx hb hX hbl hbA hS (z_in (by omega) (by omega)) dL_law_391 ?_
  refine lv_topi (fun y391 e391 => ?_)
  refine lv_aload_n hx hb dL_law_392 rfl (lv_at hl 0 rfl) ?_
  refine lv_iload_n hx hb dL_law_393 rfl (lv_at hl 3 rfl) ?_
  refine z_ic hx hb dL_law_394 (by decide) (fun v394 h394 => ?_)
  refine z_addE hx hb dL_law_395 (by omega) (fun v395 h395 => ?_)
  refine va_sld hx hb hX hbl hbA hS (z_in (by omega) (by omega)) dL_law_396 ?_
  refine lv_topi (fun y396 e396 => ?_)
  refine lv_aload_n hx hb dL_law_397 rfl (lv_at hl 0 rfl) ?_
  refine lv_iload_n hx hb dL_law_398 rfl (lv_at hl 3 rfl) ?_
  refine z_ic hx hb dL_law_399 (by decide) (fun v399 h399 => ?_)
  refine z_addE hx hb dL_law_400 (by omega) (fun v400 h400 => ?_)
  refine va_sld hx hb hX hbl hbA hS (z_in (by omega) (by omega)) dL_law_401 ?_
  refine lv_topi (fun y401 e401 => ?_)
  refine lv_aload_n hx hb dL_law_402 rfl (lv_at hl 0 rfl) ?_
  refine lv_iload_n hx hb dL_law_403 rfl (lv_at hl 3 rfl) ?_
  refine z_ic hx hb dL_law_404 (by decide) (fun v404 h404 => ?_)
  refine z_addE hx hb dL_law_405 (by omega) (fun v405 h405 => ?_)
  refine va_sld hx hb hX hbl hbA hS (z_in (by omega) (by omega)) dL_law_406 ?_
  refine lv_topi (fun y406 e406 => ?_)
  refine lv_aload_n hx hb dL_law_407 rfl (lv_at hl 0 rfl) ?_
  refine lv_iload_n hx hb dL_law_408 rfl (lv_at hl 3 rfl) ?_
  refine z_bi hx hb dL_law_409 (by decide) (fun v409 h409 => ?_)
  refine z_addE hx hb dL_law_411 (by omega) (fun v411 h411 => ?_)
  refine va_sld hx hb hX hbl hbA hS (z_in (by omega) (by omega)) dL_law_412 ?_
  refine lv_topi (fun y412 e412 => ?_)
  refine z_if_eq (tgt := 420) hx hb dL_law_413 (by decide) (fun c413 => ?_) (fun c413 => ?_)
  · skip
    refine z_ic hx hb dL_law_420 (by decide) (fun v420 h420 => ?_)
    obtain ⟨_, _, k421, _, _⟩ := gg_GK hO1
    refine u_ci (z_rV (q0 := 0) (As := [.int y386, .int y391, .int y396, .int y401, .int y406, .int v420]) (rest := []) ⟨hx, hb, hml, hown, hts⟩ (c_X7_ledge l D cy a1 cnt B hJ1 y386 y391 y396 y401 y406 v420 (by omega)) (cwV 6 hts (g_V0 mw_582 mw_583 mw_584 mw_2 mw_585) rfl rfl rfl (by decide +kernel) ⟨Nat.le_of_ble_eq_true rfl, Nat.le_of_ble_eq_true rfl⟩) hK hN hO1 hP1 (by decide) k421 rfl rfl hl.1 rfl (Nat.le_of_ble_eq_true rfl) dL_law_421 ⟨by decide, by decide⟩) hS hg1 hap hP2 (fun r421 c1_421 H locs w421 hP1 hP2 hS => ?_)
    refine lv_pop hx hb dL_law_424 rfl ?_
    refine lv_aload_n hx hb dL_law_425 rfl (lv_at hl 2 rfl) ?_
    refine lv_aload_n hx hb dL_law_426 rfl (lv_at hl 0 rfl) ?_
    refine lv_iload_n hx hb dL_law_427 rfl (lv_at hl 3 rfl) ?_
    refine z_ic hx hb dL_law_428 (by decide) (fun v428 h428 => ?_)
    refine z_addE hx hb dL_law_429 (by omega) (fun v429 h429 => ?_)
    refine va_sld hx hb hX hbl hbA hS (z_in (by omega) (by omega)) dL_law_430 ?_
    refine lv_topi (fun y430 e430 => ?_)
    refine lv_aload_n hx hb dL_law_431 rfl (lv_at hl 0 rfl) ?_
    refine lv_iload_n hx hb dL_law_432 rfl (lv_at hl 3 rfl) ?_
    refine z_ic hx hb dL_law_433 (by decide) (fun v433 h433 => ?_)
    refine z_addE hx hb dL_law_434 (by omega) (fun v434 h434 => ?_)
    refine va_sld hx hb hX hbl hbA hS (z_in (by omega) (by omega)) dL_law_435 ?_
    refine lv_topi (fun y435 e435 => ?_)
    refine lv_aload_n hx hb dL_law_436 rfl (lv_at hl 0 rfl) ?_
    refine lv_iload_n hx hb dL_law_437 rfl (lv_at hl 3 rfl) ?_
    refine z_ic hx hb dL_law_438 (by decide) (fun v438 h438 => ?_)
    refine z_addE hx hb dL_law_439 (by omega) (fun v439 h439 => ?_)
    refine va_sld hx hb hX hbl hbA hS (z_in (by omega) (by omega)) dL_law_440 ?_
    refine lv_topi (fun y440 e440 => ?_)
    refine lv_aload_n hx hb dL_law_441 rfl (lv_at hl 0 rfl) ?_
    refine lv_iload_n hx hb dL_law_442 rfl (lv_at hl 3 rfl) ?_
    refine z_ic hx hb dL_law_443 (by decide) (fun v443 h443 => ?_)
    refine z_addE hx hb dL_law_444 (by omega) (fun v444 h444 => ?_)
    refine va_sld hx hb hX hbl hbA hS (z_in (by omega) (by omega)) dL_law_445 ?_
    refine lv_topi (fun y445 e445 => ?_)
    refine lv_aload_n hx hb dL_law_446 rfl (lv_at hl 0 rfl) ?_
    refine lv_iload_n hx hb dL_law_447 rfl (lv_at hl 3 rfl) ?_
    refine z_ic hx hb dL_law_448 (by decide) (fun v448 h448 => ?_)
    refine z_addE hx hb dL_law_449 (by omega) (fun v449 h449 => ?_)
    refine va_sld hx hb hX hbl hbA hS (z_in (by omega) (by omega)) dL_law_450 ?_
    refine lv_topi (fun y450 e450 => ?_)
    refine lv_aload_n hx hb dL_law_451 rfl (lv_at hl 0 rfl) ?_
    refine lv_iload_n hx hb dL_law_452 rfl (lv_at hl 3 rfl) ?_
    refine z_bi hx hb dL_law_453 (by decide) (fun v453 h453 => ?_)
    refine z_addE hx hb dL_law_455 (by omega) (fun v455 h455 => ?_)
    refine va_sld hx hb hX hbl hbA hS (z_in (by omega) (by omega)) dL_law_456 ?_
    refine lv_topi (fun y456 e456 => ?_)
    refine z_if_eq (tgt := 464) hx hb dL_law_457 (by decide) (fun c457 => ?_) (fun c457 => ?_)
    · skip
      refine z_ic hx hb dL_law_464 (by decide) (fun v464 h464 => ?_)
      obtain ⟨_, _, _, _, _, _, _, _, _, _, _, _, _, _, _, _, k465, _, _, _, _, _, _, _, _, _, _, _, _, _, _, _, _, _, _, _, _, _, _⟩ := mg_Mo hO2
      refine u_ci (z_rV (q0 := 0) (As := [.int y430, .int y435, .int y440, .int y445, .int y450, .int v464]) (rest := []) ⟨hx, hb, hml, hown, hts⟩ (c_X8_ledge l D cy a2 cnt nd wn S By Ah hJ2 y430 y435 y440 y445 y450 v464 (by omega)) (cwV 6 hts (g_V0 mw_586 mw_587 mw_588 mw_324 mw_589) rfl rfl rfl (by decide +kernel) ⟨Nat.le_of_ble_eq_true rfl, Nat.le_of_ble_eq_true rfl⟩) hK hN hO2 hP2 (by decide) k465 rfl rfl hl.1 rfl (Nat.le_of_ble_eq_true rfl) dL_law_465 ⟨by decide, by decide⟩) hS hg2 hap2 hP1 (fun r465 c2_465 H locs w465 hP2 hP1 hS => ?_)
      have z430 : y430 = y386 := by rw [e430, e386, show v429 = v385 from z_toI (by omega)]
      have z435 : y435 = y391 := by rw [e435, e391, show v434 = v390 from z_toI (by omega)]
      have z440 : y440 = y396 := by rw [e440, e396, show v439 = v395 from z_toI (by omega)]
      have z445 : y445 = y401 := by rw [e445, e401, show v444 = v400 from z_toI (by omega)]
      have z450 : y450 = y406 := by rw [e450, e406, show v449 = v405 from z_toI (by omega)]
      have z456 : y456 = y412 := by rw [e456, e412, show v455 = v411 from z_toI (by omega)]
      rw [z430, z435, z440, z445, z450, z456] at w465
      have htie := top_tie w421 w465
      refine lv_pop hx hb dL_law_468 rfl ?_
      refine lv_goto (tgt := 1004) hx hb dL_law_469 (by decide) ?_
      obtain ⟨_, cnt2, hO1, hO2⟩ := htie
      exact kk _ _ ⟨cnt2, _, _, gOK_mono (by omega) hO1, hO2, hP1, hP2⟩ hS
    · skip
      refine z_ic hx hb dL_law_460 (by decide) (fun v460 h460 => ?_)
      refine lv_goto (tgt := 465) hx hb dL_law_461 (by decide) ?_
      obtain ⟨_, _, _, _, _, _, _, _, _, _, _, _, _, _, _, _, k465, _, _, _, _, _, _, _, _, _, _, _, _, _, _, _, _, _, _, _, _, _, _⟩ := mg_Mo hO2
      refine u_ci (z_rV (q0 := 0) (As := [.int y430, .int y435, .int y440, .int y445, .int y450, .int v460]) (rest := []) ⟨hx, hb, hml, hown, hts⟩ (c_X8_ledge l D cy a2 cnt nd wn S By Ah hJ2 y430 y435 y440 y445 y450 v460 (by omega)) (cwV 6 hts (g_V0 mw_586 mw_587 mw_588 mw_324 mw_589) rfl rfl rfl (by decide +kernel) ⟨Nat.le_of_ble_eq_true rfl, Nat.le_of_ble_eq_true rfl⟩) hK hN hO2 hP2 (by decide) k465 rfl rfl hl.1 rfl (Nat.le_of_ble_eq_true rfl) dL_law_465 ⟨by decide, by decide⟩) hS hg2 hap2 hP1 (fun r465 c2_465 H locs w465 hP2 hP1 hS => ?_)
      have z430 : y430 = y386 := by rw [e430, e386, show v429 = v385 from z_toI (by omega)]
      have z435 : y435 = y391 := by rw [e435, e391, show v434 = v390 from z_toI (by omega)]
      have z440 : y440 = y396 := by rw [e440, e396, show v439 = v395 from z_toI (by omega)]
      have z445 : y445 = y401 := by rw [e445, e401, show v444 = v400 from z_toI (by omega)]
      have z450 : y450 = y406 := by rw [e450, e406, show v449 = v405 from z_toI (by omega)]
      have z456 : y456 = y412 := by rw [e456, e412, show v455 = v411 from z_toI (by omega)]
      rw [z430, z435, z440, z445, z450, z456] at w465
      have htie := top_tie w421 w465
      refine lv_pop hx hb dL_law_468 rfl ?_
      refine lv_goto (tgt := 1004) hx hb dL_law_469 (by decide) ?_
      obtain ⟨_, cnt2, hO1, hO2⟩ := htie
      exact kk _ _ ⟨cnt2, _, _, gOK_mono (by omega) hO1, hO2, hP1, hP2⟩ hS
  · skip
    refine z_ic hx hb dL_law_416 (by decide) (fun v416 h416 => ?_)
    refine lv_goto (tgt := 421) hx hb dL_law_417 (by decide) ?_
    obtain ⟨_, _, k421, _, _⟩ := gg_GK hO1
    refine u_ci (z_rV (q0 := 0) (As := [.int y386, .int y391, .int y396, .int y401, .int y406, .int v416]) (rest := []) ⟨hx, hb, hml, hown, hts⟩ (c_X7_ledge l D cy a1 cnt B hJ1 y386 y391 y396 y401 y406 v416 (by omega)) (cwV 6 hts (g_V0 mw_582 mw_583 mw_584 mw_2 mw_585) rfl rfl rfl (by decide +kernel) ⟨Nat.le_of_ble_eq_true rfl, Nat.le_of_ble_eq_true rfl⟩) hK hN hO1 hP1 (by decide) k421 rfl rfl hl.1 rfl (Nat.le_of_ble_eq_true rfl) dL_law_421 ⟨by decide, by decide⟩) hS hg1 hap hP2 (fun r421 c1_421 H locs w421 hP1 hP2 hS => ?_)
    refine lv_pop hx hb dL_law_424 rfl ?_
    refine lv_aload_n hx hb dL_law_425 rfl (lv_at hl 2 rfl) ?_
    refine lv_aload_n hx hb dL_law_426 rfl (lv_at hl 0 rfl) ?_
    refine lv_iload_n hx hb dL_law_427 rfl (lv_at hl 3 rfl) ?_
    refine z_ic hx hb dL_law_428 (by decide) (fun v428 h428 => ?_)
    refine z_addE hx hb dL_law_429 (by omega) (fun v429 h429 => ?_)
    refine va_sld hx hb hX hbl hbA hS (z_in (by omega) (by omega)) dL_law_430 ?_
    refine lv_topi (fun y430 e430 => ?_)
    refine lv_aload_n hx hb dL_law_431 rfl (lv_at hl 0 rfl) ?_
    refine lv_iload_n hx hb dL_law_432 rfl (lv_at hl 3 rfl) ?_
    refine z_ic hx hb dL_law_433 (by decide) (fun v433 h433 => ?_)
    refine z_addE hx hb dL_law_434 (by omega) (fun v434 h434 => ?_)
    refine va_sld hx hb hX hbl hbA hS (z_in (by omega) (by omega)) dL_law_435 ?_
    refine lv_topi (fun y435 e435 => ?_)
    refine lv_aload_n hx hb dL_law_436 rfl (lv_at hl 0 rfl) ?_
    refine lv_iload_n hx hb dL_law_437 rfl (lv_at hl 3 rfl) ?_
    refine z_ic hx hb dL_law_438 (by decide) (fun v438 h438 => ?_)
    refine z_addE hx hb dL_law_439 (by omega) (fun v439 h439 => ?_)
    refine va_sld hx hb hX hbl hbA hS (z_in (by omega) (by omega)) dL_law_440 ?_
    refine lv_topi (fun y440 e440 => ?_)
    refine lv_aload_n hx hb dL_law_441 rfl (lv_at hl 0 rfl) ?_
    refine lv_iload_n hx hb dL_law_442 rfl (lv_at hl 3 rfl) ?_
    refine z_ic hx hb dL_law_443 (by decide) (fun v443 h443 => ?_)
    refine z_addE hx hb dL_law_444 (by omega) (fun v444 h444 => ?_)
    refine va_sld hx hb hX hbl hbA hS (z_in (by omega) (by omega)) dL_law_445 ?_
    refine lv_topi (fun y445 e445 => ?_)
    refine lv_aload_n hx hb dL_law_446 rfl (lv_at hl 0 rfl) ?_
    refine lv_iload_n hx hb dL_law_447 rfl (lv_at hl 3 rfl) ?_
    refine z_ic hx hb dL_law_448 (by decide) (fun v448 h448 => ?_)
    refine z_addE hx hb dL_law_449 (by omega) (fun v449 h449 => ?_)
    refine va_sld hx hb hX hbl hbA hS (z_in (by omega) (by omega)) dL_law_450 ?_
    refine lv_topi (fun y450 e450 => ?_)
    refine lv_aload_n hx hb dL_law_451 rfl (lv_at hl 0 rfl) ?_
    refine lv_iload_n hx hb dL_law_452 rfl (lv_at hl 3 rfl) ?_
    refine z_bi hx hb dL_law_453 (by decide) (fun v453 h453 => ?_)
    refine z_addE hx hb dL_law_455 (by omega) (fun v455 h455 => ?_)
    refine va_sld hx hb hX hbl hbA hS (z_in (by omega) (by omega)) dL_law_456 ?_
    refine lv_topi (fun y456 e456 => ?_)
    refine z_if_eq (tgt := 464) hx hb dL_law_457 (by decide) (fun c457 => ?_) (fun c457 => ?_)
    · skip
      refine z_ic hx hb dL_law_464 (by decide) (fun v464 h464 => ?_)
      obtain ⟨_, _, _, _, _, _, _, _, _, _, _, _, _, _, _, _, k465, _, _, _, _, _, _, _, _, _, _, _, _, _, _, _, _, _, _, _, _, _, _⟩ := mg_Mo hO2
      refine u_ci (z_rV (q0 := 0) (As := [.int y430, .int y435, .int y440, .int y445, .int y450, .int v464]) (rest := []) ⟨hx, hb, hml, hown, hts⟩ (c_X8_ledge l D cy a2 cnt nd wn S By Ah hJ2 y430 y435 y440 y445 y450 v464 (by omega)) (cwV 6 hts (g_V0 mw_586 mw_587 mw_588 mw_324 mw_589) rfl rfl rfl (by decide +kernel) ⟨Nat.le_of_ble_eq_true rfl, Nat.le_of_ble_eq_true rfl⟩) hK hN hO2 hP2 (by decide) k465 rfl rfl hl.1 rfl (Nat.le_of_ble_eq_true rfl) dL_law_465 ⟨by decide, by decide⟩) hS hg2 hap2 hP1 (fun r465 c2_465 H locs w465 hP2 hP1 hS => ?_)
      have z430 : y430 = y386 := by rw [e430, e386, show v429 = v385 from z_toI (by omega)]
      have z435 : y435 = y391 := by rw [e435, e391, show v434 = v390 from z_toI (by omega)]
      have z440 : y440 = y396 := by rw [e440, e396, show v439 = v395 from z_toI (by omega)]
      have z445 : y445 = y401 := by rw [e445, e401, show v444 = v400 from z_toI (by omega)]
      have z450 : y450 = y406 := by rw [e450, e406, show v449 = v405 from z_toI (by omega)]
      have z456 : y456 = y412 := by rw [e456, e412, show v455 = v411 from z_toI (by omega)]
      rw [z430, z435, z440, z445, z450, z456] at w465
      have htie := top_tie w421 w465
      refine lv_pop hx hb dL_law_468 rfl ?_
      refine lv_goto (tgt := 1004) hx hb dL_law_469 (by decide) ?_
      obtain ⟨_, cnt2, hO1, hO2⟩ := htie
      exact kk _ _ ⟨cnt2, _, _, gOK_mono (by omega) hO1, hO2, hP1, hP2⟩ hS
    · skip
      refine z_ic hx hb dL_law_460 (by decide) (fun v460 h460 => ?_)
      refine lv_goto (tgt := 465) hx hb dL_law_461 (by decide) ?_
      obtain ⟨_, _, _, _, _, _, _, _, _, _, _, _, _, _, _, _, k465, _, _, _, _, _, _, _, _, _, _, _, _, _, _, _, _, _, _, _, _, _, _⟩ := mg_Mo hO2
      refine u_ci (z_rV (q0 := 0) (As := [.int y430, .int y435, .int y440, .int y445, .int y450, .int v460]) (rest := []) ⟨hx, hb, hml, hown, hts⟩ (c_X8_ledge l D cy a2 cnt nd wn S By Ah hJ2 y430 y435 y440 y445 y450 v460 (by omega)) (cwV 6 hts (g_V0 mw_586 mw_587 mw_588 mw_324 mw_589) rfl rfl rfl (by decide +kernel) ⟨Nat.le_of_ble_eq_true rfl, Nat.le_of_ble_eq_true rfl⟩) hK hN hO2 hP2 (by decide) k465 rfl rfl hl.1 rfl (Nat.le_of_ble_eq_true rfl) dL_law_465 ⟨by decide, by decide⟩) hS hg2 hap2 hP1 (fun r465 c2_465 H locs w465 hP2 hP1 hS => ?_)
      have z430 : y430 = y386 := by rw [e430, e386, show v429 = v385 from z_toI (by omega)]
      have z435 : y435 = y391 := by rw [e435, e391, show v434 = v390 from z_toI (by omega)]
      have z440 : y440 = y396 := by rw [e440, e396, show v439 = v395 from z_toI (by omega)]
      have z445 : y445 = y401 := by rw [e445, e401, show v444 = v400 from z_toI (by omega)]
      have z450 : y450 = y406 := by rw [e450, e406, show v449 = v405 from z_toI (by omega)]
      have z456 : y456 = y412 := by rw [e456, e412, show v455 = v411 from z_toI (by omega)]
      rw [z430, z435, z440, z445, z450, z456] at w465
      have htie := top_tie w421 w465
      refine lv_pop hx hb dL_law_468 rfl ?_
      refine lv_goto (tgt := 1004) hx hb dL_law_469 (by decide) ?_
      obtain ⟨_, cnt2, hO1, hO2⟩ := htie
      exact kk _ _ ⟨cnt2, _, _, gOK_mono (by omega) hO1, hO2, hP1, hP2⟩ hS
set_option maxHeartbeats 8000000 in
set_option maxRecDepth 100000 in
theorem lc_6 {p : Program} {l : Launch} {e : Env} {s : State} {m : MethodId} {below : List Frame} {meth : Method} {c : Code} {b L : Nat} {xs : Nat → Int32} {D : va_G} {cy : Nat → ClassId} {a1 a2 : Nat → Nat} {Q : State → Prop} (hL : L ≤ 4096) (C0 : lK p s m meth c b L xs D cy a1 a2) {B : Nat} (hB : 1 ≤ B ∧ B + 60 ≤ 1000000) {x3 : Int32} (hx3 : 0 ≤ x3.toInt ∧ x3.toInt + 8 ≤ (L : Int)) {H : Heap} {locs : List Loc} (hst : lS D cy a1 a2 B H) (hS : va_S (fun q : Nat => s.heap.size ≤ q) s.heap H locs) {ls : Array Slot} (hl : lv_has ls 4 [(0, .ref b), (1, .ref (a1 0)), (2, .ref (a2 0)), (3, .int x3)]) (kk : ∀ (H : Heap) (locs : List Loc), lS D cy a1 a2 (B + 60) H → va_S (fun q : Nat => s.heap.size ≤ q) s.heap H locs → W p l e room_1 s m #[Value.ref b] below meth c H locs 107 4467 Q (F0 m 1004 ls [])) : W p l e room_1 s m #[Value.ref b] below meth c H locs 107 4467 Q (F0 m 472 ls []) := by
  obtain ⟨⟨hx, hb, hr, hml, hown, hts, hX, hbl, hlocks, hgv⟩, hK, hN, hJ1, hJ2, hap, hg1, hg2⟩ := C0
  have hap2 : ∀ i j, i < 34 → j < 73 → a2 i ≠ a1 j := fun i j h1 h2 h3 => hap j i h2 h1 h3.symm
  have hts : ∀ w ∈ wsL_law, w.before #[Value.ref b] s = true := fun w h => hts w (wsL_law_in w h)
  have hbA : ¬ (fun q : Nat => s.heap.size ≤ q) b := Nat.not_le.mpr hbl
  obtain ⟨cnt, c1, c2, hO1, ⟨nd, wn, S, By, Ah, hO2⟩, hP1, hP2⟩ := hst
  refine lv_aload_n hx hb dL_law_472 rfl (lv_at hl 1 rfl) ?_
  refine lv_aload_n hx hb dL_law_473 rfl (lv_at hl 0 rfl) ?_
  refine lv_iload_n hx hb dL_law_474 rfl (lv_at hl 3 rfl) ?_
  refine z_ic hx hb dL_law_475 (by decide) (fun v475 h475 => ?_)
  refine z_addE hx hb dL_law_476 (by omega) (fun v476 h476 => ?_)
  refine va_sld hx hb hX hbl hbA hS (z_in (by omega) (by omega)) dL_law_477 ?_
  refine lv_topi (fun y477 e477 => ?_)
  refine lv_aload_n hx hb dL_law_478 rfl (lv_at hl 0 rfl) ?_
  refine lv_iload_n hx hb dL_law_479 rfl (lv_at hl 3 rfl) ?_
  refine z_ic hx hb dL_law_480 (by decide) (fun v480 h480 => ?_)
  refine z_addE hx hb dL_law_481 (by omega) (fun v481 h481 => ?_)
  refine va_sld hx hb hX hbl hbA hS (z_in (by omega) (by omega)) dL_law_482 ?_
  refine lv_topi (fun y482 e482 => ?_)
  refine lv_aload_n hx hb dL_law_483 rfl (lv_at hl 0 rfl) ?_
  refine lv_iload_n hx hb dL_law_484 rfl (lv_at hl 3 rfl) ?_
  refine z_ic hx hb dL_law_485 (by decide) (fun v485 h485 => ?_)
  refine z_addE hx hb dL_law_486 (by omega) (fun v486 h486 => ?_)
  refine va_sld hx hb hX hbl hbA hS (z_in (by omega) (by omega)) dL_law_487 ?_
  refine lv_topi (fun y487 e487 => ?_)
  refine lv_aload_n hx hb dL_law_488 rfl (lv_at hl 0 rfl) ?_
  refine lv_iload_n hx hb dL_law_489 rfl (lv_at hl 3 rfl) ?_
  refine z_ic hx hb dL_law_490 (by decide) (fun v490 h490 => ?_)
  refine z_addE hx hb dL_law_491 (by omega) (fun v491 h491 => ?_)
  refine va_sld hx hb hX hbl hbA hS (z_in (by omega) (by omega)) dL_law_492 ?_
  refine lv_topi (fun y492 e492 => ?_)
  refine lv_aload_n hx hb dL_law_493 rfl (lv_at hl 0 rfl) ?_
  refine lv_iload_n hx hb dL_law_494 rfl (lv_at hl 3 rfl) ?_
  refine z_ic hx hb dL_law_495 (by decide) (fun v495 h495 => ?_)
  refine z_addE hx hb dL_law_496 (by omega) (fun v496 h496 => ?_)
  refine va_sld hx hb hX hbl hbA hS (z_in (by omega) (by omega)) dL_law_497 ?_
  refine lv_topi (fun y497 e497 => ?_)
  refine lv_aload_n hx hb dL_law_498 rfl (lv_at hl 0 rfl) ?_
  refine lv_iload_n hx hb dL_law_499 rfl (lv_at hl 3 rfl) ?_
  refine z_bi hx hb dL_law_500 (by decide) (fun v500 h500 => ?_)
  refine z_addE hx hb dL_law_502 (by omega) (fun v502 h502 => ?_)
  refine va_sld hx hb hX hbl hbA hS (z_in (by omega) (by omega)) dL_law_503 ?_
  refine lv_topi (fun y503 e503 => ?_)
  refine lv_aload_n hx hb dL_law_504 rfl (lv_at hl 0 rfl) ?_
  refine lv_iload_n hx hb dL_law_505 rfl (lv_at hl 3 rfl) ?_
  refine z_bi hx hb dL_law_506 (by decide) (fun v506 h506 => ?_)
  refine z_addE hx hb dL_law_508 (by omega) (fun v508 h508 => ?_)
  refine va_sld hx hb hX hbl hbA hS (z_in (by omega) (by omega)) dL_law_509 ?_
  refine lv_topi (fun y509 e509 => ?_)
  obtain ⟨_, _, k510, _, _⟩ := gg_GK hO1
  refine u_ci (z_rV (q0 := 0) (As := [.int y477, .int y482, .int y487, .int y492, .int y497, .int y503, .int y509]) (rest := []) ⟨hx, hb, hml, hown, hts⟩ (c_X7_ladder l D cy a1 cnt B hJ1 y477 y482 y487 y492 y497 y503 y509) (cwV 7 hts (g_V0 mw_590 mw_591 mw_592 mw_2 mw_593) rfl rfl rfl (by decide +kernel) ⟨Nat.le_of_ble_eq_true rfl, Nat.le_of_ble_eq_true rfl⟩) hK hN hO1 hP1 (by decide) k510 rfl rfl hl.1 rfl (Nat.le_of_ble_eq_true rfl) dL_law_510 ⟨by decide, by decide⟩) hS hg1 hap hP2 (fun r510 c1_510 H locs w510 hP1 hP2 hS => ?_)
  refine lv_pop hx hb dL_law_513 rfl ?_
  refine lv_aload_n hx hb dL_law_514 rfl (lv_at hl 2 rfl) ?_
  refine lv_aload_n hx hb dL_law_515 rfl (lv_at hl 0 rfl) ?_
  refine lv_iload_n hx hb dL_law_516 rfl (lv_at hl 3 rfl) ?_
  refine z_ic hx hb dL_law_517 (by decide) (fun v517 h517 => ?_)
  refine z_addE hx hb dL_law_518 (by omega) (fun v518 h518 => ?_)
  refine va_sld hx hb hX hbl hbA hS (z_in (by omega) (by omega)) dL_law_519 ?_
  refine lv_topi (fun y519 e519 => ?_)
  refine lv_aload_n hx hb dL_law_520 rfl (lv_at hl 0 rfl) ?_
  refine lv_iload_n hx hb dL_law_521 rfl (lv_at hl 3 rfl) ?_
  refine z_ic hx hb dL_law_522 (by decide) (fun v522 h522 => ?_)
  refine z_addE hx hb dL_law_523 (by omega) (fun v523 h523 => ?_)
  refine va_sld hx hb hX hbl hbA hS (z_in (by omega) (by omega)) dL_law_524 ?_
  refine lv_topi (fun y524 e524 => ?_)
  refine lv_aload_n hx hb dL_law_525 rfl (lv_at hl 0 rfl) ?_
  refine lv_iload_n hx hb dL_law_526 rfl (lv_at hl 3 rfl) ?_
  refine z_ic hx hb dL_law_527 (by decide) (fun v527 h527 => ?_)
  refine z_addE hx hb dL_law_528 (by omega) (fun v528 h528 => ?_)
  refine va_sld hx hb hX hbl hbA hS (z_in (by omega) (by omega)) dL_law_529 ?_
  refine lv_topi (fun y529 e529 => ?_)
  refine lv_aload_n hx hb dL_law_530 rfl (lv_at hl 0 rfl) ?_
  refine lv_iload_n hx hb dL_law_531 rfl (lv_at hl 3 rfl) ?_
  refine z_ic hx hb dL_law_532 (by decide) (fun v532 h532 => ?_)
  refine z_addE hx hb dL_law_533 (by omega) (fun v533 h533 => ?_)
  refine va_sld hx hb hX hbl hbA hS (z_in (by omega) (by omega)) dL_law_534 ?_
  refine lv_topi (fun y534 e534 => ?_)
  refine lv_aload_n hx hb dL_law_535 rfl (lv_at hl 0 rfl) ?_
  refine lv_iload_n hx hb dL_law_536 rfl (lv_at hl 3 rfl) ?_
  refine z_ic hx hb dL_law_537 (by decide) (fun v537 h537 => ?_)
  refine z_addE hx hb dL_law_538 (by omega) (fun v538 h538 => ?_)
  refine va_sld hx hb hX hbl hbA hS (z_in (by omega) (by omega)) dL_law_539 ?_
  refine lv_topi (fun y539 e539 => ?_)
  refine lv_aload_n hx hb dL_law_540 rfl (lv_at hl 0 rfl) ?_
  refine lv_iload_n hx hb dL_law_541 rfl (lv_at hl 3 rfl) ?_
  refine z_bi hx hb dL_law_542 (by decide) (fun v542 h542 => ?_)
  refine z_addE hx hb dL_law_544 (by omega) (fun v544 h544 => ?_)
  refine va_sld hx hb hX hbl hbA hS (z_in (by omega) (by omega)) dL_law_545 ?_
  refine lv_topi (fun y545 e545 => ?_)
  refine lv_aload_n hx hb dL_law_546 rfl (lv_at hl 0 rfl) ?_
  refine lv_iload_n hx hb dL_law_547 rfl (lv_at hl 3 rfl) ?_
  refine z_bi hx hb dL_law_548 (by decide) (fun v548 h548 => ?_)
  refine z_addE hx hb dL_law_550 (by omega) (fun v550 h550 => ?_)
  refine va_sld hx hb hX hbl hbA hS (z_in (by omega) (by omega)) dL_law_551 ?_
  refine lv_topi (fun y551 e551 => ?_)
  obtain ⟨_, _, _, _, _, _, _, _, _, _, _, _, _, _, _, _, k552, _, _, _, _, _, _, _, _, _, _, _, _, _, _, _, _, _, _, _, _, _, _⟩ := mg_Mo hO2
  refine u_ci (z_rV (q0 := 0) (As := [.int y519, .int y524, .int y529, .int y534, .int y539, .int y545, .int y551]) (rest := []) ⟨hx, hb, hml, hown, hts⟩ (c_X8_ladder l D cy a2 cnt nd wn S By Ah hJ2 y519 y524 y529 y534 y539 y545 y551) (cwV 7 hts (g_V0 mw_594 mw_595 mw_596 mw_324 mw_597) rfl rfl rfl (by decide +kernel) ⟨Nat.le_of_ble_eq_true rfl, Nat.le_of_ble_eq_true rfl⟩) hK hN hO2 hP2 (by decide) k552 rfl rfl hl.1 rfl (Nat.le_of_ble_eq_true rfl) dL_law_552 ⟨by decide, by decide⟩) hS hg2 hap2 hP1 (fun r552 c2_552 H locs w552 hP2 hP1 hS => ?_)
  have z519 : y519 = y477 := by rw [e519, e477, show v518 = v476 from z_toI (by omega)]
  have z524 : y524 = y482 := by rw [e524, e482, show v523 = v481 from z_toI (by omega)]
  have z529 : y529 = y487 := by rw [e529, e487, show v528 = v486 from z_toI (by omega)]
  have z534 : y534 = y492 := by rw [e534, e492, show v533 = v491 from z_toI (by omega)]
  have z539 : y539 = y497 := by rw [e539, e497, show v538 = v496 from z_toI (by omega)]
  have z545 : y545 = y503 := by rw [e545, e503, show v544 = v502 from z_toI (by omega)]
  have z551 : y551 = y509 := by rw [e551, e509, show v550 = v508 from z_toI (by omega)]
  rw [z519, z524, z529, z534, z539, z545, z551] at w552
  have htie := top_tie w510 w552
  refine lv_pop hx hb dL_law_555 rfl ?_
  refine lv_goto (tgt := 1004) hx hb dL_law_556 (by decide) ?_
  obtain ⟨_, cnt2, hO1, hO2⟩ := htie
  exact kk _ _ ⟨cnt2, _, _, gOK_mono (by omega) hO1, hO2, hP1, hP2⟩ hS
set_option maxHeartbeats 8000000 in
set_option maxRecDepth 100000 in
theorem lc_7 {p : Program} {l : Launch} {e : Env} {s : State} {m : MethodId} {below : List Frame} {meth : Method} {c : Code} {b L : Nat} {xs : Nat → Int32} {D : va_G} {cy : Nat → ClassId} {a1 a2 : Nat → Nat} {Q : State → Prop} (hL : L ≤ 4096) (C0 : lK p s m meth c b L xs D cy a1 a2) {B : Nat} (hB : 1 ≤ B ∧ B + 60 ≤ 1000000) {x3 : Int32} (hx3 : 0 ≤ x3.toInt ∧ x3.toInt + 8 ≤ (L : Int)) {H : Heap} {locs : List Loc} (hst : lS D cy a1 a2 B H) (hS : va_S (fun q : Nat => s.heap.size ≤ q) s.heap H locs) {ls : Array Slot} (hl : lv_has ls 4 [(0, .ref b), (1, .ref (a1 0)), (2, .ref (a2 0)), (3, .int x3)]) (kk : ∀ (H : Heap) (locs : List Loc), lS D cy a1 a2 (B + 60) H → va_S (fun q : Nat => s.heap.size ≤ q) s.heap H locs → W p l e room_1 s m #[Value.ref b] below meth c H locs 107 4467 Q (F0 m 1004 ls [])) : W p l e room_1 s m #[Value.ref b] below meth c H locs 107 4467 Q (F0 m 559 ls []) := by
  obtain ⟨⟨hx, hb, hr, hml, hown, hts, hX, hbl, hlocks, hgv⟩, hK, hN, hJ1, hJ2, hap, hg1, hg2⟩ := C0
  have hap2 : ∀ i j, i < 34 → j < 73 → a2 i ≠ a1 j := fun i j h1 h2 h3 => hap j i h2 h1 h3.symm
  have hts : ∀ w ∈ wsL_law, w.before #[Value.ref b] s = true := fun w h => hts w (wsL_law_in w h)
  have hbA : ¬ (fun q : Nat => s.heap.size ≤ q) b := Nat.not_le.mpr hbl
  obtain ⟨cnt, c1, c2, hO1, ⟨nd, wn, S, By, Ah, hO2⟩, hP1, hP2⟩ := hst
  refine lv_aload_n hx hb dL_law_559 rfl (lv_at hl 1 rfl) ?_
  refine lv_aload_n hx hb dL_law_560 rfl (lv_at hl 0 rfl) ?_
  refine lv_iload_n hx hb dL_law_561 rfl (lv_at hl 3 rfl) ?_
  refine z_ic hx hb dL_law_562 (by decide) (fun v562 h562 => ?_)
  refine z_addE hx hb dL_law_563 (by omega) (fun v563 h563 => ?_)
  refine va_sld hx hb hX hbl hbA hS (z_in (by omega) (by omega)) dL_law_564 ?_
  refine lv_topi (fun y564 e564 => ?_)
  refine lv_aload_n hx hb dL_law_565 rfl (lv_at hl 0 rfl) ?_
  refine lv_iload_n hx hb dL_law_566 rfl (lv_at hl 3 rfl) ?_
  refine z_ic hx hb dL_law_567 (by decide) (fun v567 h567 => ?_)
  refine z_addE hx hb dL_law_568 (by omega) (fun v568 h568 => ?_)
  refine va_sld hx hb hX hbl hbA hS (z_in (by omega) (by omega)) dL_law_569 ?_
  refine lv_topi (fun y569 e569 => ?_)
  refine lv_aload_n hx hb dL_law_570 rfl (lv_at hl 0 rfl) ?_
  refine lv_iload_n hx hb dL_law_571 rfl (lv_at hl 3 rfl) ?_
  refine z_ic hx hb dL_law_572 (by decide) (fun v572 h572 => ?_)
  refine z_addE hx hb dL_law_573 (by omega) (fun v573 h573 => ?_)
  refine va_sld hx hb hX hbl hbA hS (z_in (by omega) (by omega)) dL_law_574 ?_
  refine lv_topi (fun y574 e574 => ?_)
  obtain ⟨_, _, k575, _, _⟩ := gg_GK hO1
  refine u_ci (z_rV (q0 := 0) (As := [.int y564, .int y569, .int y574]) (rest := []) ⟨hx, hb, hml, hown, hts⟩ (c_X7_may l D cy a1 cnt B (fun _ => True) hJ1 y564 y569 y574) (cwV 3 hts (g_V0 mw_598 mw_599 mw_600 mw_2 mw_601) rfl rfl rfl (by decide +kernel) ⟨Nat.le_of_ble_eq_true rfl, Nat.le_of_ble_eq_true rfl⟩) hK hN ⟨hO1, trivial⟩ hP1 (by decide) k575 rfl rfl hl.1 rfl (Nat.le_of_ble_eq_true rfl) dL_law_575 ⟨by decide, by decide⟩) hS hg1 hap hP2 (fun r575 c1_575 H locs w575 hP1 hP2 hS => ?_)
  have hO1 := w575.1.1
  refine lv_pop hx hb dL_law_578 rfl ?_
  refine lv_aload_n hx hb dL_law_579 rfl (lv_at hl 2 rfl) ?_
  refine lv_aload_n hx hb dL_law_580 rfl (lv_at hl 0 rfl) ?_
  refine lv_iload_n hx hb dL_law_581 rfl (lv_at hl 3 rfl) ?_
  refine z_ic hx hb dL_law_582 (by decide) (fun v582 h582 => ?_)
  refine z_addE hx hb dL_law_583 (by omega) (fun v583 h583 => ?_)
  refine va_sld hx hb hX hbl hbA hS (z_in (by omega) (by omega)) dL_law_584 ?_
  refine lv_topi (fun y584 e584 => ?_)
  refine lv_aload_n hx hb dL_law_585 rfl (lv_at hl 0 rfl) ?_
  refine lv_iload_n hx hb dL_law_586 rfl (lv_at hl 3 rfl) ?_
  refine z_ic hx hb dL_law_587 (by decide) (fun v587 h587 => ?_)
  refine z_addE hx hb dL_law_588 (by omega) (fun v588 h588 => ?_)
  refine va_sld hx hb hX hbl hbA hS (z_in (by omega) (by omega)) dL_law_589 ?_
  refine lv_topi (fun y589 e589 => ?_)
  refine lv_aload_n hx hb dL_law_590 rfl (lv_at hl 0 rfl) ?_
  refine lv_iload_n hx hb dL_law_591 rfl (lv_at hl 3 rfl) ?_
  refine z_ic hx hb dL_law_592 (by decide) (fun v592 h592 => ?_)
  refine z_addE hx hb dL_law_593 (by omega) (fun v593 h593 => ?_)
  refine va_sld hx hb hX hbl hbA hS (z_in (by omega) (by omega)) dL_law_594 ?_
  refine lv_topi (fun y594 e594 => ?_)
  obtain ⟨_, _, _, _, _, _, _, _, _, _, _, _, _, _, _, _, k595, _, _, _, _, _, _, _, _, _, _, _, _, _, _, _, _, _, _, _, _, _, _⟩ := mg_Mo hO2
  refine u_ci (z_rV (q0 := 0) (As := [.int y584, .int y589, .int y594]) (rest := []) ⟨hx, hb, hml, hown, hts⟩ (c_X8_may l D cy a2 cnt nd wn S By Ah (fun _ => True) hJ2 y584 y589 y594) (cwV 3 hts (g_V0 mw_602 mw_603 mw_604 mw_324 mw_605) rfl rfl rfl (by decide +kernel) ⟨Nat.le_of_ble_eq_true rfl, Nat.le_of_ble_eq_true rfl⟩) hK hN ⟨hO2, trivial⟩ hP2 (by decide) k595 rfl rfl hl.1 rfl (Nat.le_of_ble_eq_true rfl) dL_law_595 ⟨by decide, by decide⟩) hS hg2 hap2 hP1 (fun r595 c2_595 H locs w595 hP2 hP1 hS => ?_)
  have hO2 := w595.1.1
  refine lv_pop hx hb dL_law_598 rfl ?_
  refine lv_goto (tgt := 1004) hx hb dL_law_599 (by decide) ?_
  exact kk _ _ ⟨cnt, _, _, (gOK_mono (by omega) hO1), ⟨_, _, _, _, _, hO2⟩, hP1, hP2⟩ hS
set_option maxHeartbeats 8000000 in
set_option maxRecDepth 100000 in
theorem lc_8 {p : Program} {l : Launch} {e : Env} {s : State} {m : MethodId} {below : List Frame} {meth : Method} {c : Code} {b L : Nat} {xs : Nat → Int32} {D : va_G} {cy : Nat → ClassId} {a1 a2 : Nat → Nat} {Q : State → Prop} (hL : L ≤ 4096) (C0 : lK p s m meth c b L xs D cy a1 a2) {B : Nat} (hB : 1 ≤ B ∧ B + 60 ≤ 1000000) {x3 : Int32} (hx3 : 0 ≤ x3.toInt ∧ x3.toInt + 8 ≤ (L : Int)) {H : Heap} {locs : List Loc} (hst : lS D cy a1 a2 B H) (hS : va_S (fun q : Nat => s.heap.size ≤ q) s.heap H locs) {ls : Array Slot} (hl : lv_has ls 4 [(0, .ref b), (1, .ref (a1 0)), (2, .ref (a2 0)), (3, .int x3)]) (kk : ∀ (H : Heap) (locs : List Loc), lS D cy a1 a2 (B + 60) H → va_S (fun q : Nat => s.heap.size ≤ q) s.heap H locs → W p l e room_1 s m #[Value.ref b] below meth c H locs 107 4467 Q (F0 m 1004 ls [])) : W p l e room_1 s m #[Value.ref b] below meth c H locs 107 4467 Q (F0 m 602 ls []) := by
  obtain ⟨⟨hx, hb, hr, hml, hown, hts, hX, hbl, hlocks, hgv⟩, hK, hN, hJ1, hJ2, hap, hg1, hg2⟩ := C0
  have hap2 : ∀ i j, i < 34 → j < 73 → a2 i ≠ a1 j := fun i j h1 h2 h3 => hap j i h2 h1 h3.symm
  have hts : ∀ w ∈ wsL_law, w.before #[Value.ref b] s = true := fun w h => hts w (wsL_law_in w h)
  have hbA : ¬ (fun q : Nat => s.heap.size ≤ q) b := Nat.not_le.mpr hbl
  obtain ⟨cnt, c1, c2, hO1, ⟨nd, wn, S, By, Ah, hO2⟩, hP1, hP2⟩ := hst
  refine lv_aload_n hx hb dL_law_602 rfl (lv_at hl 1 rfl) ?_
  refine lv_aload_n hx hb dL_law_603 rfl (lv_at hl 0 rfl) ?_
  refine lv_iload_n hx hb dL_law_604 rfl (lv_at hl 3 rfl) ?_
  refine z_ic hx hb dL_law_605 (by decide) (fun v605 h605 => ?_)
  refine z_addE hx hb dL_law_606 (by omega) (fun v606 h606 => ?_)
  refine va_sld hx hb hX hbl hbA hS (z_in (by omega) (by omega)) dL_law_607 ?_
  refine lv_topi (fun y607 e607 => ?_)
  refine lv_aload_n hx hb dL_law_608 rfl (lv_at hl 0 rfl) ?_
  refine lv_iload_n hx hb dL_law_609 rfl (lv_at hl 3 rfl) ?_
  refine z_ic hx hb dL_law_610 (by decide) (fun v610 h610 => ?_)
  refine z_addE hx hb dL_law_611 (by omega) (fun v611 h611 => ?_)
  refine va_sld hx hb hX hbl hbA hS (z_in (by omega) (by omega)) dL_law_612 ?_
  refine lv_topi (fun y612 e612 => ?_)
  refine lv_aload_n hx hb dL_law_613 rfl (lv_at hl 0 rfl) ?_
  refine lv_iload_n hx hb dL_law_614 rfl (lv_at hl 3 rfl) ?_
  refine z_ic hx hb dL_law_615 (by decide) (fun v615 h615 => ?_)
  refine z_addE hx hb dL_law_616 (by omega) (fun v616 h616 => ?_)
  refine va_sld hx hb hX hbl hbA hS (z_in (by omega) (by omega)) dL_law_617 ?_
  refine lv_topi (fun y617 e617 => ?_)
  refine lv_aload_n hx hb dL_law_618 rfl (lv_at hl 0 rfl) ?_
  refine lv_iload_n hx hb dL_law_619 rfl (lv_at hl 3 rfl) ?_
  refine z_ic hx hb dL_law_620 (by decide) (fun v620 h620 => ?_)
  refine z_addE hx hb dL_law_621 (by omega) (fun v621 h621 => ?_)
  refine va_sld hx hb hX hbl hbA hS (z_in (by omega) (by omega)) dL_law_622 ?_
  refine lv_topi (fun y622 e622 => ?_)
  refine lv_aload_n hx hb dL_law_623 rfl (lv_at hl 0 rfl) ?_
  refine lv_iload_n hx hb dL_law_624 rfl (lv_at hl 3 rfl) ?_
  refine z_ic hx hb dL_law_625 (by decide) (fun v625 h625 => ?_)
  refine z_addE hx hb dL_law_626 (by omega) (fun v626 h626 => ?_)
  refine va_sld hx hb hX hbl hbA hS (z_in (by omega) (by omega)) dL_law_627 ?_
  refine lv_topi (fun y627 e627 => ?_)
  obtain ⟨_, _, k628, _, _⟩ := gg_GK hO1
  refine u_ci (z_rV (q0 := 0) (As := [.int y607, .int y612, .int y617, .int y622, .int y627]) (rest := []) ⟨hx, hb, hml, hown, hts⟩ (c_X7_see l D cy a1 cnt B hJ1 y607 y612 y617 y622 y627) (cwV 5 hts (g_V0 mw_606 mw_607 mw_608 mw_2 mw_609) rfl rfl rfl (by decide +kernel) ⟨Nat.le_of_ble_eq_true rfl, Nat.le_of_ble_eq_true rfl⟩) hK hN hO1 hP1 (by decide) k628 rfl rfl hl.1 rfl (Nat.le_of_ble_eq_true rfl) dL_law_628 ⟨by decide, by decide⟩) hS hg1 hap hP2 (fun r628 c1_628 H locs w628 hP1 hP2 hS => ?_)
  have hO1 := w628.1
  refine lv_pop hx hb dL_law_631 rfl ?_
  refine lv_aload_n hx hb dL_law_632 rfl (lv_at hl 2 rfl) ?_
  refine lv_aload_n hx hb dL_law_633 rfl (lv_at hl 0 rfl) ?_
  refine lv_iload_n hx hb dL_law_634 rfl (lv_at hl 3 rfl) ?_
  refine z_ic hx hb dL_law_635 (by decide) (fun v635 h635 => ?_)
  refine z_addE hx hb dL_law_636 (by omega) (fun v636 h636 => ?_)
  refine va_sld hx hb hX hbl hbA hS (z_in (by omega) (by omega)) dL_law_637 ?_
  refine lv_topi (fun y637 e637 => ?_)
  refine lv_aload_n hx hb dL_law_638 rfl (lv_at hl 0 rfl) ?_
  refine lv_iload_n hx hb dL_law_639 rfl (lv_at hl 3 rfl) ?_
  refine z_ic hx hb dL_law_640 (by decide) (fun v640 h640 => ?_)
  refine z_addE hx hb dL_law_641 (by omega) (fun v641 h641 => ?_)
  refine va_sld hx hb hX hbl hbA hS (z_in (by omega) (by omega)) dL_law_642 ?_
  refine lv_topi (fun y642 e642 => ?_)
  refine lv_aload_n hx hb dL_law_643 rfl (lv_at hl 0 rfl) ?_
  refine lv_iload_n hx hb dL_law_644 rfl (lv_at hl 3 rfl) ?_
  refine z_ic hx hb dL_law_645 (by decide) (fun v645 h645 => ?_)
  refine z_addE hx hb dL_law_646 (by omega) (fun v646 h646 => ?_)
  refine va_sld hx hb hX hbl hbA hS (z_in (by omega) (by omega)) dL_law_647 ?_
  refine lv_topi (fun y647 e647 => ?_)
  refine lv_aload_n hx hb dL_law_648 rfl (lv_at hl 0 rfl) ?_
  refine lv_iload_n hx hb dL_law_649 rfl (lv_at hl 3 rfl) ?_
  refine z_ic hx hb dL_law_650 (by decide) (fun v650 h650 => ?_)
  refine z_addE hx hb dL_law_651 (by omega) (fun v651 h651 => ?_)
  refine va_sld hx hb hX hbl hbA hS (z_in (by omega) (by omega)) dL_law_652 ?_
  refine lv_topi (fun y652 e652 => ?_)
  refine lv_aload_n hx hb dL_law_653 rfl (lv_at hl 0 rfl) ?_
  refine lv_iload_n hx hb dL_law_654 rfl (lv_at hl 3 rfl) ?_
  refine z_ic hx hb dL_law_655 (by decide) (fun v655 h655 => ?_)
  refine z_addE hx hb dL_law_656 (by omega) (fun v656 h656 => ?_)
  refine va_sld hx hb hX hbl hbA hS (z_in (by omega) (by omega)) dL_law_657 ?_
  refine lv_topi (fun y657 e657 => ?_)
  obtain ⟨_, _, _, _, _, _, _, _, _, _, _, _, _, _, _, _, k658, _, _, _, _, _, _, _, _, _, _, _, _, _, _, _, _, _, _, _, _, _, _⟩ := mg_Mo hO2
  refine u_ci (z_rV (q0 := 0) (As := [.int y637, .int y642, .int y647, .int y652, .int y657]) (rest := []) ⟨hx, hb, hml, hown, hts⟩ (c_X8_see l D cy a2 cnt nd wn S By Ah hJ2 y637 y642 y647 y652 y657) (cwV 5 hts (g_V0 mw_610 mw_611 mw_612 mw_324 mw_613) rfl rfl rfl (by decide +kernel) ⟨Nat.le_of_ble_eq_true rfl, Nat.le_of_ble_eq_true rfl⟩) hK hN hO2 hP2 (by decide) k658 rfl rfl hl.1 rfl (Nat.le_of_ble_eq_true rfl) dL_law_658 ⟨by decide, by decide⟩) hS hg2 hap2 hP1 (fun r658 c2_658 H locs w658 hP2 hP1 hS => ?_)
  have hO2 := w658.1
  refine lv_pop hx hb dL_law_661 rfl ?_
  refine lv_goto (tgt := 1004) hx hb dL_law_662 (by decide) ?_
  exact kk _ _ ⟨cnt, _, _, (gOK_mono (by omega) hO1), ⟨_, _, _, _, _, hO2⟩, hP1, hP2⟩ hS
