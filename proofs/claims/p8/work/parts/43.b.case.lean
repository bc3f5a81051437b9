set_option maxHeartbeats 8000000 in
set_option maxRecDepth 100000 in
theorem lc_1 {p : Program} {l : Launch} {e : Env} {s : State} {m : MethodId} {below : List Frame} {meth : Method} {c : Code} {b L : Nat} {xs : Nat → Int32} {D : va_G} {cy : Nat → ClassId} {a1 a2 : Nat → Nat} {Q : State → Prop} (hL : L ≤ 4096) (C0 : lK p s m meth c b L xs D cy a1 a2) {B : Nat} (hB : 1 ≤ B ∧ B + 60 ≤ 1000000) {x3 : Int32} (hx3 : 0 ≤ x3.toInt ∧ x3.toInt + 8 ≤ (L : Int)) {H : Heap} {locs : List Loc} (hst : lS D cy a1 a2 B H) (hS : va_S (fun q : Nat => s.heap.size ≤ q) s.heap H locs) {ls : Array Slot} (hl : lv_has ls 4 [(0, .ref b), (1, .ref (a1 0)), (2, .ref (a2 0)), (3, .int x3)]) (kk : ∀ (H : Heap) (locs : List Loc), lS D cy a1 a2 (B + 60) H → va_S (fun q : Nat => s.heap.size ≤ q) s.heap H locs → W p l e room_1 s m #[Value.ref b] below meth c H locs 107 4467 Q (F0 m 1004 ls [])) : W p l e room_1 s m #[Value.ref b] below meth c H locs 107 4467 Q (F0 m 183 ls []) := by
  obtain ⟨⟨hx, hb, hr, hml, hown, hts, hX, hbl, hlocks, hgv⟩, hK, hN, hJ1, hJ2, hap, hg1, hg2⟩ := C0
  have hap2 : ∀ i j, i < 34 → j < 73 → a2 i ≠ a1 j := fun i j h1 h2 h3 => hap j i h2 h1 h3.symm
  have hts : ∀ w ∈ wsL_law, w.before #[Value.ref b] s = true := fun w h => hts w (wsL_law_in w h)
  have hbA : ¬ (fun q : Nat => s.heap.size ≤ q) b := Nat.not_le.mpr hbl
  obtain ⟨cnt, c1, c2, hO1, ⟨nd, wn, S, By, Ah, hO2⟩, hP1, hP2⟩ := hst
  refine lv_aload_n hx hb dL_law_183 rfl (lv_at hl 1 rfl) ?_
  refine rd_a 1 hx hb hX hbl hbA hS hl hx3 hL rfl (by decide) (by decide) dL_law_184 dL_law_185 dL_law_186 dL_law_187 dL_law_188 (fun y188 e188 => ?_)
  refine rd_a 2 hx hb hX hbl hbA hS hl hx3 hL rfl (by decide) (by decide) dL_law_189 dL_law_190 dL_law_191 dL_law_192 dL_law_193 (fun y193 e193 => ?_)
  refine rd_a 3 hx hb hX hbl hbA hS hl hx3 hL rfl (by decide) (by decide) dL_law_194 dL_law_195 dL_law_196 dL_law_197 dL_law_198 (fun y198 e198 => ?_)
  refine rd_a 4 hx hb hX hbl hbA hS hl hx3 hL rfl (by decide) (by decide) dL_law_199 dL_law_200 dL_law_201 dL_law_202 dL_law_203 (fun y203 e203 => ?_)
  refine rd_a 5 hx hb hX hbl hbA hS hl hx3 hL rfl (by decide) (by decide) dL_law_204 dL_law_205 dL_law_206 dL_law_207 dL_law_208 (fun y208 e208 => ?_)
  obtain ⟨_, _, k209, _, _⟩ := gg_GK hO1
  refine u_ci (z_rV (q0 := 0) (As := [.int y188, .int y193, .int y198, .int y203, .int y208]) (rest := []) ⟨hx, hb, hml, hown, hts⟩ (c_X7_box l D cy a1 cnt B hJ1 y188 y193 y198 y203 y208) (cwV 5 hts (g_V0 mw_550 mw_551 mw_552 mw_2 mw_553) rfl rfl rfl (by decide +kernel) ⟨Nat.le_of_ble_eq_true rfl, Nat.le_of_ble_eq_true rfl⟩) hK hN hO1 hP1 (by decide) k209 rfl rfl hl.1 rfl (Nat.le_of_ble_eq_true rfl) dL_law_209 ⟨by decide, by decide⟩) hS hg1 hap hP2 (fun r209 c1_209 H locs w209 hP1 hP2 hS => ?_)
  have hO1 := w209.1
  refine lv_pop hx hb dL_law_212 rfl ?_
  refine lv_aload_n hx hb dL_law_213 rfl (lv_at hl 2 rfl) ?_
  refine rd_a 1 hx hb hX hbl hbA hS hl hx3 hL rfl (by decide) (by decide) dL_law_214 dL_law_215 dL_law_216 dL_law_217 dL_law_218 (fun y218 e218 => ?_)
  refine rd_a 2 hx hb hX hbl hbA hS hl hx3 hL rfl (by decide) (by decide) dL_law_219 dL_law_220 dL_law_221 dL_law_222 dL_law_223 (fun y223 e223 => ?_)
  refine rd_a 3 hx hb hX hbl hbA hS hl hx3 hL rfl (by decide) (by decide) dL_law_224 dL_law_225 dL_law_226 dL_law_227 dL_law_228 (fun y228 e228 => ?_)
  refine rd_a 4 hx hb hX hbl hbA hS hl hx3 hL rfl (by decide) (by decide) dL_law_229 dL_law_230 dL_law_231 dL_law_232 dL_law_233 (fun y233 e233 => ?_)
  refine rd_a 5 hx hb hX hbl hbA hS hl hx3 hL rfl (by decide) (by decide) dL_law_234 dL_law_235 dL_law_236 dL_law_237 dL_law_238 (fun y238 e238 => ?_)
  obtain ⟨_, _, _, _, _, _, _, _, _, _, _, _, _, _, _, _, k239, _, _, _, _, _, _, _, _, _, _, _, _, _, _, _, _, _, _, _, _, _, _⟩ := mg_Mo hO2
  refine u_ci (z_rV (q0 := 0) (As := [.int y218, .int y223, .int y228, .int y233, .int y238]) (rest := []) ⟨hx, hb, hml, hown, hts⟩ (c_X8_box l D cy a2 cnt nd wn S By Ah hJ2 y218 y223 y228 y233 y238) (cwV 5 hts (g_V0 mw_554 mw_555 mw_556 mw_324 mw_557) rfl rfl rfl (by decide +kernel) ⟨Nat.le_of_ble_eq_true rfl, Nat.le_of_ble_eq_true rfl⟩) hK hN hO2 hP2 (by decide) k239 rfl rfl hl.1 rfl (Nat.le_of_ble_eq_true rfl) dL_law_239 ⟨by decide, by decide⟩) hS hg2 hap2 hP1 (fun r239 c2_239 H locs w239 hP2 hP1 hS => ?_)
  have hO2 := w239.1
  refine lv_pop hx hb dL_law_242 rfl ?_
  refine lv_goto (tgt := 1004) hx hb dL_law_243 (by decide) ?_
  exact kk _ _ ⟨cnt, _, _, (gOK_mono (by omega) hO1), ⟨_, _, _, _, _, hO2⟩, hP1, hP2⟩ hS
