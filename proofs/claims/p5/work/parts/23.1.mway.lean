set_option maxHeartbeats 8000000 in
set_option maxRecDepth 100000 in
theorem c_X8_settles (l : Launch) (D : va_G) (cy : Nat → ClassId) (ad : Nat → Nat) (cnt : Nat → Nat) (nd : Nat) (wn : Nat) (S : Nat → Int32) (By : Nat → Int32) (Ah : Nat → Int32) (hJ : zJ 34 ad) (hn : 2 ≤ nd ∧ nd ≤ 94) : zM l D (mT cy) 34 ad (mOK cy ad cnt nd wn S By Ah) yX8_settles vsX8_settles { frames := 6, cells := 0, slots := 0, locals := 147 } ([.ref (ad 0)] : List Value) (zQv D 34 ad (fun ce => ∃ S2 By2, Tree nd By2 ∧ mOK cy ad cnt nd wn S2 By2 Ah ce)) := by
  refine z_of (cc := cX8_settles) (maxL := 5) (ret := none) (by decide) rfl (Nat.le_of_ble_eq_true rfl) ?_
  intro p e s m below meth c hx hb hr hts hown hlocks hml hK hN ce hOK hP
  have hown : s.vm.findClass RX8 = some m.cls := hown
  have hS : va_S (zA 34 ad) s.heap s.heap [] := va_S.rf
  have hO := hOK
  have inX8 : ∀ w ∈ u_ws RX8 TX8 49, w ∈ vsX8_settles := fun w h => List.mem_cons_of_mem _ (inlX8 w h)
  have fl41 := hts (.fieldLink RX8 41 "GroundKeeperModel" "isNode" "[Z") (List.mem_cons_of_mem _ mw_379)
  have fl53 := hts (.fieldLink RX8 53 "GroundKeeperModel" "far" "[I") (List.mem_cons_of_mem _ mw_413)
  have fl56 := hts (.fieldLink RX8 56 "GroundKeeperModel" "by" "[I") (List.mem_cons_of_mem _ mw_414)
  have fl59 := hts (.fieldLink RX8 59 "GroundKeeperModel" "settled" "[Z") (List.mem_cons_of_mem _ mw_415)
  have fl214 := hts (.fieldLink RX8 214 "GroundKeeperModel" "nodes" "I") (List.mem_cons_of_mem _ mw_383)
  have L60 : ∀ N60 : Nat, ∀ (H : Heap) (locs : List Loc) (ce : Nat → va_E) (S1 : Nat → Int32) (By1 : Nat → Int32) (x1 : Int32), va_P D vwCl (zw 34 ad ce) H → va_S (zA 34 ad) s.heap H locs → mOK cy ad cnt nd wn S1 By1 Ah ce → (-1 ≤ x1.toInt ∧ x1.toInt ≤ 93) → (Stl nd S1 By1) → (sU nd S1 x1) → ((cu S1 nd : Int) + 1 ≤ (N60 : Int)) → ∀ ls : Array Slot, lv_has ls 5 [(0, .ref (ad 0)), (1, .int x1)] → W p l e { frames := 6, cells := 0, slots := 0, locals := 147 } s m ([.ref (ad 0)] : List Value).toArray below meth c H locs 0 0 (MQ below (zQv D 34 ad (fun ce => ∃ S2 By2, Tree nd By2 ∧ mOK cy ad cnt nd wn S2 By2 Ah ce)) ([.ref (ad 0)] : List Value).toArray s 0 0 (zA 34 ad)) (F0 m 60 ls []) := by
    intro N60
    induction N60 with
    | zero =>
      intro H locs ce S1 By1 x1 hP hS hO q_x1 qx0 qx1 hm ls hl
      exfalso; omega
    | succ N60 ih60 =>
      have L76 : ∀ N76 : Nat, ∀ (H : Heap) (locs : List Loc) (ce : Nat → va_E) (S1 : Nat → Int32) (By1 : Nat → Int32) (x1 : Int32) (x2 : Int32) (x3 : Int32), va_P D vwCl (zw 34 ad ce) H → va_S (zA 34 ad) s.heap H locs → mOK cy ad cnt nd wn S1 By1 Ah ce → (0 ≤ x1.toInt ∧ x1.toInt ≤ 93) → (-1 ≤ x2.toInt ∧ x2.toInt ≤ 93) → (0 ≤ x3.toInt ∧ x3.toInt ≤ 94) → (Stl nd S1 By1) → (sT nd S1 x1) → (sU nd S1 x2) → ((cu S1 nd : Int) + 1 ≤ (N60 : Int)) → (95 - x3.toInt ≤ (N76 : Int)) → ∀ ls : Array Slot, lv_has ls 5 [(0, .ref (ad 0)), (1, .int x1), (2, .int x2), (3, .int x3)] → W p l e { frames := 6, cells := 0, slots := 0, locals := 147 } s m ([.ref (ad 0)] : List Value).toArray below meth c H locs 0 0 (MQ below (zQv D 34 ad (fun ce => ∃ S2 By2, Tree nd By2 ∧ mOK cy ad cnt nd wn S2 By2 Ah ce)) ([.ref (ad 0)] : List Value).toArray s 0 0 (zA 34 ad)) (F0 m 76 ls []) := by
        intro N76
        induction N76 with
        | zero =>
          intro H locs ce S1 By1 x1 x2 x3 hP hS hO q_x1 q_x2 q_x3 qx0 qx1 qx2 qm60 hm ls hl
          exfalso; omega
        | succ N76 ih76 =>
          have J198 : ∀ (H : Heap) (locs : List Loc) (ce : Nat → va_E) (S1 : Nat → Int32) (By1 : Nat → Int32) (x1 : Int32) (x2 : Int32) (x3 : Int32), va_P D vwCl (zw 34 ad ce) H → va_S (zA 34 ad) s.heap H locs → mOK cy ad cnt nd wn S1 By1 Ah ce → (0 ≤ x1.toInt ∧ x1.toInt ≤ 93) → (-1 ≤ x2.toInt ∧ x2.toInt ≤ 93) → (0 ≤ x3.toInt ∧ x3.toInt ≤ 93) → (Stl nd S1 By1) → (sT nd S1 x1) → (sU nd S1 x2) → ((cu S1 nd : Int) + 1 ≤ (N60 : Int)) → (95 - x3.toInt ≤ (N76 : Int) + 1) → ∀ ls : Array Slot, lv_has ls 5 [(0, .ref (ad 0)), (1, .int x1), (2, .int x2), (3, .int x3)] → W p l e { frames := 6, cells := 0, slots := 0, locals := 147 } s m ([.ref (ad 0)] : List Value).toArray below meth c H locs 0 0 (MQ below (zQv D 34 ad (fun ce => ∃ S2 By2, Tree nd By2 ∧ mOK cy ad cnt nd wn S2 By2 Ah ce)) ([.ref (ad 0)] : List Value).toArray s 0 0 (zA 34 ad)) (F0 m 198 ls []) := by
            intro H locs ce S1 By1 x1 x2 x3 hP hS hO q_x1 q_x2 q_x3 qx0 qx1 qx2 qm60 qm76 ls hl
            refine z_iinc (lv' := fun w0 => [(3, .int w0), (0, .ref (ad 0)), (1, .int x1), (2, .int x2)]) hx hb dX8_settles_198 hl (k := 3) rfl (by decide) (fun _ => rfl) (by decide) (by omega) (fun v198 ls h198 hl => ?_)
            refine lv_goto (tgt := 76) hx hb dX8_settles_201 (by decide) ?_
            exact ih76 _ _ _ S1 By1 x1 x2 v198 hP hS hO (by omega) (by omega) (by omega) (by assumption) (by assumption) (by assumption) (by omega) (by omega) _ (lv_sub hl [1, 2, 3, 0] rfl)
          have J196 : ∀ (H : Heap) (locs : List Loc) (ce : Nat → va_E) (S1 : Nat → Int32) (By1 : Nat → Int32) (x1 : Int32) (x3 : Int32), va_P D vwCl (zw 34 ad ce) H → va_S (zA 34 ad) s.heap H locs → mOK cy ad cnt nd wn S1 By1 Ah ce → (0 ≤ x1.toInt ∧ x1.toInt ≤ 93) → (0 ≤ x3.toInt ∧ x3.toInt ≤ 93) → (Stl nd S1 By1) → (sT nd S1 x1) → (sU nd S1 x3) → ((cu S1 nd : Int) + 1 ≤ (N60 : Int)) → (95 - x3.toInt ≤ (N76 : Int) + 1) → ∀ ls : Array Slot, lv_has ls 5 [(0, .ref (ad 0)), (1, .int x1), (3, .int x3)] → W p l e { frames := 6, cells := 0, slots := 0, locals := 147 } s m ([.ref (ad 0)] : List Value).toArray below meth c H locs 0 0 (MQ below (zQv D 34 ad (fun ce => ∃ S2 By2, Tree nd By2 ∧ mOK cy ad cnt nd wn S2 By2 Ah ce)) ([.ref (ad 0)] : List Value).toArray s 0 0 (zA 34 ad)) (F0 m 196 ls []) := by
            intro H locs ce S1 By1 x1 x3 hP hS hO q_x1 q_x3 qx0 qx1 qx2 qm60 qm76 ls hl
            refine lv_iload_n hx hb dX8_settles_196 rfl (lv_at hl 2 rfl) ?_
            refine lv_istore_n (lv' := [(2, .int x3), (0, .ref (ad 0)), (1, .int x1), (3, .int x3)]) hx hb dX8_settles_197 rfl hl (by decide) rfl (fun ls hl => ?_)
            exact J198 _ _ _ S1 By1 x1 x3 x3 hP hS hO (by omega) (by omega) (by omega) (by assumption) (by assumption) (by assumption) (by omega) (by omega) _ (lv_sub hl [1, 2, 0, 3] rfl)
          have J166 : ∀ (H : Heap) (locs : List Loc) (ce : Nat → va_E) (S1 : Nat → Int32) (By1 : Nat → Int32) (x1 : Int32) (x2 : Int32) (x3 : Int32), va_P D vwCl (zw 34 ad ce) H → va_S (zA 34 ad) s.heap H locs → mOK cy ad cnt nd wn S1 By1 Ah ce → (0 ≤ x1.toInt ∧ x1.toInt ≤ 93) → (-1 ≤ x2.toInt ∧ x2.toInt ≤ 93) → (0 ≤ x3.toInt ∧ x3.toInt ≤ 93) → (Stl nd S1 By1) → (sT nd S1 x1) → (sU nd S1 x2) → (sU nd S1 x3) → ((cu S1 nd : Int) + 1 ≤ (N60 : Int)) → (95 - x3.toInt ≤ (N76 : Int) + 1) → ∀ ls : Array Slot, lv_has ls 5 [(0, .ref (ad 0)), (1, .int x1), (2, .int x2), (3, .int x3)] → W p l e { frames := 6, cells := 0, slots := 0, locals := 147 } s m ([.ref (ad 0)] : List Value).toArray below meth c H locs 0 0 (MQ below (zQv D 34 ad (fun ce => ∃ S2 By2, Tree nd By2 ∧ mOK cy ad cnt nd wn S2 By2 Ah ce)) ([.ref (ad 0)] : List Value).toArray s 0 0 (zA 34 ad)) (F0 m 166 ls []) := by
            intro H locs ce S1 By1 x1 x2 x3 hP hS hO q_x1 q_x2 q_x3 qx0 qx1 qx2 qx3 qm60 qm76 ls hl
            refine lv_aload_n hx hb dX8_settles_166 rfl (lv_at hl 0 rfl) ?_
            obtain ⟨v167, v167a, v167b, v167c, v167d, v167e, v167f, v167g, v167h, v167i, v167j, v167k, v167l, v167m, v167n, v167o, e167, h167, h167a, h167b, h167c, h167d, h167e, h167f, h167g, h167h, h167i, h167j, h167k, h167l, h167m, h167n, h167o, h167p, h167q, h167r, h167s, h167t, h167u⟩ := mg_Mo hO
            refine va_get (ci := 8) (C := RX8) (T := TX8) (N := 49) (v := .ref (ad 15)) hx hb hts inX8 hown hK hP 0 (zw_at (by decide) e167) rfl 26 (by decide) fl53 (fun _ h => h) rfl dX8_settles_167 ?_
            refine lv_iload_n hx hb dX8_settles_170 rfl (lv_at hl 3 rfl) ?_
            obtain ⟨f171, e171⟩ := mg_Fa hO
            refine z_iald hx hb hK hP (q0 := 15) 0 (by decide) e171 rfl (by omega) dX8_settles_171 (fun v171 r171 => ?_)
            refine z_ic hx hb dX8_settles_172 (by decide) (fun v172 h172 => ?_)
            refine z_icmp_eq (tgt := 198) hx hb dX8_settles_173 (by decide) (fun c173 => ?_) (fun c173 => ?_)
            · skip
              exact J198 _ _ _ S1 By1 x1 x2 x3 hP hS hO (by omega) (by omega) (by omega) (by assumption) (by assumption) (by assumption) (by omega) (by omega) _ (lv_sub hl [0, 1, 2, 3] rfl)
            · skip
              refine lv_iload_n hx hb dX8_settles_176 rfl (lv_at hl 2 rfl) ?_
              refine z_ic hx hb dX8_settles_177 (by decide) (fun v177 h177 => ?_)
              refine z_icmp_eq (tgt := 196) hx hb dX8_settles_178 (by decide) (fun c178 => ?_) (fun c178 => ?_)
              · skip
                exact J196 _ _ _ S1 By1 x1 x3 hP hS hO (by omega) (by omega) (by assumption) (by assumption) (by assumption) (by omega) (by omega) _ (lv_sub hl [0, 1, 3] rfl)
              · skip
                refine lv_aload_n hx hb dX8_settles_181 rfl (lv_at hl 0 rfl) ?_
                refine va_get (ci := 8) (C := RX8) (T := TX8) (N := 49) (v := .ref (ad 15)) hx hb hts inX8 hown hK hP 0 (zw_at (by decide) e167) rfl 26 (by decide) fl53 (fun _ h => h) rfl dX8_settles_182 ?_
                refine lv_iload_n hx hb dX8_settles_185 rfl (lv_at hl 3 rfl) ?_
                refine z_iald hx hb hK hP (q0 := 15) 0 (by decide) e171 rfl (by omega) dX8_settles_186 (fun v186 r186 => ?_)
                have h186 : v186.toInt = v171.toInt := z_same r186 r171
                refine lv_aload_n hx hb dX8_settles_187 rfl (lv_at hl 0 rfl) ?_
                refine va_get (ci := 8) (C := RX8) (T := TX8) (N := 49) (v := .ref (ad 15)) hx hb hts inX8 hown hK hP 0 (zw_at (by decide) e167) rfl 26 (by decide) fl53 (fun _ h => h) rfl dX8_settles_188 ?_
                refine lv_iload_n hx hb dX8_settles_191 rfl (lv_at hl 2 rfl) ?_
                refine z_iald hx hb hK hP (q0 := 15) 0 (by decide) e171 rfl (by omega) dX8_settles_192 (fun v192 r192 => ?_)
                refine z_icmp_ge (tgt := 198) hx hb dX8_settles_193 (by decide) (fun c193 => ?_) (fun c193 => ?_)
                · skip
                  exact J198 _ _ _ S1 By1 x1 x2 x3 hP hS hO (by omega) (by omega) (by omega) (by assumption) (by assumption) (by assumption) (by omega) (by omega) _ (lv_sub hl [0, 1, 2, 3] rfl)
                · skip
                  exact J196 _ _ _ S1 By1 x1 x3 hP hS hO (by omega) (by omega) (by assumption) (by assumption) (by assumption) (by omega) (by omega) _ (lv_sub hl [0, 1, 3] rfl)
          have J144 : ∀ (H : Heap) (locs : List Loc) (ce : Nat → va_E) (S1 : Nat → Int32) (By1 : Nat → Int32) (x1 : Int32) (x2 : Int32) (x3 : Int32) (x4 : Int32), va_P D vwCl (zw 34 ad ce) H → va_S (zA 34 ad) s.heap H locs → mOK cy ad cnt nd wn S1 By1 Ah ce → (0 ≤ x1.toInt ∧ x1.toInt ≤ 93) → (-1 ≤ x2.toInt ∧ x2.toInt ≤ 93) → (0 ≤ x3.toInt ∧ x3.toInt ≤ 93) → (Stl nd S1 By1) → (sT nd S1 x1) → (sU nd S1 x2) → (sU nd S1 x3) → ((cu S1 nd : Int) + 1 ≤ (N60 : Int)) → (95 - x3.toInt ≤ (N76 : Int) + 1) → ∀ ls : Array Slot, lv_has ls 5 [(0, .ref (ad 0)), (1, .int x1), (2, .int x2), (3, .int x3), (4, .int x4)] → W p l e { frames := 6, cells := 0, slots := 0, locals := 147 } s m ([.ref (ad 0)] : List Value).toArray below meth c H locs 0 0 (MQ below (zQv D 34 ad (fun ce => ∃ S2 By2, Tree nd By2 ∧ mOK cy ad cnt nd wn S2 By2 Ah ce)) ([.ref (ad 0)] : List Value).toArray s 0 0 (zA 34 ad)) (F0 m 144 ls []) := by
            intro H locs ce S1 By1 x1 x2 x3 x4 hP hS hO q_x1 q_x2 q_x3 qx0 qx1 qx2 qx3 qm60 qm76 ls hl
            refine lv_aload_n hx hb dX8_settles_144 rfl (lv_at hl 0 rfl) ?_
            obtain ⟨v145, v145a, v145b, v145c, v145d, v145e, v145f, v145g, v145h, v145i, v145j, v145k, v145l, v145m, v145n, v145o, e145, h145, h145a, h145b, h145c, h145d, h145e, h145f, h145g, h145h, h145i, h145j, h145k, h145l, h145m, h145n, h145o, h145p, h145q, h145r, h145s, h145t, h145u⟩ := mg_Mo hO
            refine va_get (ci := 8) (C := RX8) (T := TX8) (N := 49) (v := .ref (ad 15)) hx hb hts inX8 hown hK hP 0 (zw_at (by decide) e145) rfl 26 (by decide) fl53 (fun _ h => h) rfl dX8_settles_145 ?_
            refine lv_iload_n hx hb dX8_settles_148 rfl (lv_at hl 3 rfl) ?_
            refine lv_aload_n hx hb dX8_settles_149 rfl (lv_at hl 0 rfl) ?_
            refine va_get (ci := 8) (C := RX8) (T := TX8) (N := 49) (v := .ref (ad 15)) hx hb hts inX8 hown hK hP 0 (zw_at (by decide) e145) rfl 26 (by decide) fl53 (fun _ h => h) rfl dX8_settles_150 ?_
            refine lv_iload_n hx hb dX8_settles_153 rfl (lv_at hl 1 rfl) ?_
            obtain ⟨f154, e154⟩ := mg_Fa hO
            refine z_iald hx hb hK hP (q0 := 15) 0 (by decide) e154 rfl (by omega) dX8_settles_154 (fun v154 r154 => ?_)
            refine lv_iload hx hb dX8_settles_155 (lv_at hl 4 rfl) ?_
            refine lv_iadd hx hb dX8_settles_157 ?_
            refine lv_topi (fun v157 _ => ?_)
            refine z_iast hx hb hK hJ hP hS (q0 := 15) 0 (by decide) e154 rfl (z_in (by omega) (by omega)) dX8_settles_158 (fun ce H locs e158 h158 hP hS => ?_)
            have hO := z_up (OKK := mK cy ad cnt nd wn S1 By1 Ah) 15 hO h158 (by rw [e158]; exact mE_Fa |>.mpr ⟨_, rfl⟩)
            have e158a := (h158 0 (by omega)).trans e145
            refine lv_aload_n hx hb dX8_settles_159 rfl (lv_at hl 0 rfl) ?_
            refine va_get (ci := 8) (C := RX8) (T := TX8) (N := 49) (v := .ref (ad 16)) hx hb hts inX8 hown hK hP 0 (zw_at (by decide) e158a) rfl 27 (by decide) fl56 (fun _ h => h) rfl dX8_settles_160 ?_
            refine lv_iload_n hx hb dX8_settles_163 rfl (lv_at hl 3 rfl) ?_
            refine lv_iload_n hx hb dX8_settles_164 rfl (lv_at hl 1 rfl) ?_
            obtain ⟨e165, h165⟩ := mg_By hO
            refine z_iast hx hb hK hJ hP hS (q0 := 16) 0 (by decide) e165 rfl (z_in (by omega) (by omega)) dX8_settles_165 (fun ce H locs e165a h165a hP hS => ?_)
            obtain ⟨By165, By165h⟩ : ∃ z, z = upd By1 x3.toNatClampNeg x1 := ⟨_, rfl⟩
            rw [← By165h] at e165a
            have By165c : ∀ i0 : Nat, i0 < 94 → -1 ≤ (By165 i0).toInt ∧ (By165 i0).toInt ≤ 93 := by rw [By165h]; exact fun i0 i1 => z_updc h165 (by omega) i0 i1
            have hO := z_up2 (OKK := mK cy ad cnt nd wn S1 By1 Ah) (OKL := mK cy ad cnt nd wn S1 By165 Ah) 16 hO h165a (fun q e _ h => mK_By (by assumption) h) (by rw [e165a]; exact mE_By |>.mpr ⟨rfl, By165c⟩)
            have e165b := (h165a 0 (by omega)).trans e158a
            exact J166 _ _ _ S1 By165 x1 x2 x3 hP hS hO (by omega) (by omega) (by omega) (by rw [By165h]; exact sU_by qx0 qx3 qx1 (by omega) (by omega)) (by assumption) (by assumption) (by assumption) (by omega) (by omega) _ (lv_sub hl [0, 1, 2, 3] rfl)
          intro H locs ce S1 By1 x1 x2 x3 hP hS hO q_x1 q_x2 q_x3 qx0 qx1 qx2 qm60 hm ls hl
          refine lv_iload_n hx hb dX8_settles_76 rfl (lv_at hl 3 rfl) ?_
          refine lv_aload_n hx hb dX8_settles_77 rfl (lv_at hl 0 rfl) ?_
          obtain ⟨v78, v78a, v78b, v78c, v78d, v78e, v78f, v78g, v78h, v78i, v78j, v78k, v78l, v78m, v78n, v78o, e78, h78, h78a, h78b, h78c, h78d, h78e, h78f, h78g, h78h, h78i, h78j, h78k, h78l, h78m, h78n, h78o, h78p, h78q, h78r, h78s, h78t, h78u⟩ := mg_Mo hO
          refine va_get (ci := 8) (C := RX8) (T := TX8) (N := 49) (v := .int v78k) hx hb hts inX8 hown hK hP 0 (zw_at (by decide) e78) rfl 21 (by decide) fl214 (fun _ h => h) rfl dX8_settles_78 ?_
          refine z_icmp_ge (tgt := 204) hx hb dX8_settles_81 (by decide) (fun c81 => ?_) (fun c81 => ?_)
          · skip
            refine lv_iload_n hx hb dX8_settles_204 rfl (lv_at hl 2 rfl) ?_
            refine lv_istore_n (lv' := [(1, .int x2), (0, .ref (ad 0)), (2, .int x2), (3, .int x3)]) hx hb dX8_settles_205 rfl hl (by decide) rfl (fun ls hl => ?_)
            refine lv_goto (tgt := 60) hx hb dX8_settles_206 (by decide) ?_
            exact ih60 _ _ _ S1 By1 x2 hP hS hO (by omega) (by assumption) (by assumption) (by omega) _ (lv_sub hl [1, 0] rfl)
          · skip
            refine lv_aload_n hx hb dX8_settles_84 rfl (lv_at hl 0 rfl) ?_
            refine va_get (ci := 8) (C := RX8) (T := TX8) (N := 49) (v := .ref (ad 11)) hx hb hts inX8 hown hK hP 0 (zw_at (by decide) e78) rfl 22 (by decide) fl41 (fun _ h => h) rfl dX8_settles_85 ?_
            refine lv_iload_n hx hb dX8_settles_88 rfl (lv_at hl 3 rfl) ?_
            obtain ⟨f89, e89⟩ := mg_In hO
            refine z_zald hx hb hK hP (q0 := 11) 1 (by decide) e89 rfl (by omega) dX8_settles_89 (fun v89 r89 => ?_)
            refine z_if_eq (tgt := 198) hx hb dX8_settles_90 (by decide) (fun c90 => ?_) (fun c90 => ?_)
            · skip
              exact J198 _ _ _ S1 By1 x1 x2 x3 hP hS hO (by omega) (by omega) (by omega) (by assumption) (by assumption) (by assumption) (by omega) (by omega) _ (lv_sub hl [0, 1, 2, 3] rfl)
            · skip
              refine lv_aload_n hx hb dX8_settles_93 rfl (lv_at hl 0 rfl) ?_
              refine va_get (ci := 8) (C := RX8) (T := TX8) (N := 49) (v := .ref (ad 17)) hx hb hts inX8 hown hK hP 0 (zw_at (by decide) e78) rfl 28 (by decide) fl59 (fun _ h => h) rfl dX8_settles_94 ?_
              refine lv_iload_n hx hb dX8_settles_97 rfl (lv_at hl 3 rfl) ?_
              have e98 := mg_Se hO
              refine z_zald hx hb hK hP (q0 := 17) 1 (by decide) e98 rfl (by omega) dX8_settles_98 (fun v98 r98 => ?_)
              refine z_if_ne (tgt := 198) hx hb dX8_settles_99 (by decide) (fun c99 => ?_) (fun c99 => ?_)
              · skip
                exact J198 _ _ _ S1 By1 x1 x2 x3 hP hS hO (by omega) (by omega) (by omega) (by assumption) (by assumption) (by assumption) (by omega) (by omega) _ (lv_sub hl [0, 1, 2, 3] rfl)
              · skip
                refine lv_aload_n hx hb dX8_settles_102 rfl (lv_at hl 0 rfl) ?_
                refine lv_iload_n hx hb dX8_settles_103 rfl (lv_at hl 1 rfl) ?_
                refine lv_iload_n hx hb dX8_settles_104 rfl (lv_at hl 3 rfl) ?_
                refine z_ci (z_rV (q0 := 0) (As := [.int x1, .int x3]) (rest := []) ⟨hx, hb, hml, hown, hts⟩ (c_X8_step l D cy ad cnt nd wn S1 By1 Ah hJ x1 x3 (by omega) (by omega)) (cwV 2 hts (g_V mw_418 mw_419 mw_420 mw_324 mw_421) rfl rfl rfl (by decide +kernel) ⟨Nat.le_of_ble_eq_true rfl, Nat.le_of_ble_eq_true rfl⟩) hK hN hO hP (by decide) e78 rfl rfl hl.1 rfl (Nat.le_of_ble_eq_true rfl) dX8_settles_105 ⟨Nat.zero_le _, Nat.zero_le _⟩) hS (fun v105 ce H locs h105 hP hS => ?_)
                obtain ⟨hO, h105a⟩ := h105
                refine lv_istore (lv' := [(4, .int v105), (0, .ref (ad 0)), (1, .int x1), (2, .int x2), (3, .int x3)]) hx hb dX8_settles_108 hl (by decide) rfl (fun ls hl => ?_)
                refine lv_iload hx hb dX8_settles_110 (lv_at hl 0 rfl) ?_
                refine z_ic hx hb dX8_settles_112 (by decide) (fun v112 h112 => ?_)
                refine z_icmp_eq (tgt := 166) hx hb dX8_settles_113 (by decide) (fun c113 => ?_) (fun c113 => ?_)
                · skip
                  exact J166 _ _ _ S1 By1 x1 x2 x3 hP hS hO (by omega) (by omega) (by omega) (by assumption) (by assumption) (by assumption) (sU_rd r98 (by omega) (by omega)) (by omega) (by omega) _ (lv_sub hl [1, 2, 3, 4] rfl)
                · skip
                  refine lv_aload_n hx hb dX8_settles_116 rfl (lv_at hl 1 rfl) ?_
                  obtain ⟨v117, v117a, v117b, v117c, v117d, v117e, v117f, v117g, v117h, v117i, v117j, v117k, v117l, v117m, v117n, v117o, e117, h117, h117a, h117b, h117c, h117d, h117e, h117f, h117g, h117h, h117i, h117j, h117k, h117l, h117m, h117n, h117o, h117p, h117q, h117r, h117s, h117t, h117u⟩ := mg_Mo hO
                  refine va_get (ci := 8) (C := RX8) (T := TX8) (N := 49) (v := .ref (ad 15)) hx hb hts inX8 hown hK hP 0 (zw_at (by decide) e117) rfl 26 (by decide) fl53 (fun _ h => h) rfl dX8_settles_117 ?_
                  refine lv_iload_n hx hb dX8_settles_120 rfl (lv_at hl 4 rfl) ?_
                  obtain ⟨f121, e121⟩ := mg_Fa hO
                  refine z_iald hx hb hK hP (q0 := 15) 0 (by decide) e121 rfl (by omega) dX8_settles_121 (fun v121 r121 => ?_)
                  refine z_ic hx hb dX8_settles_122 (by decide) (fun v122 h122 => ?_)
                  refine z_icmp_eq (tgt := 144) hx hb dX8_settles_123 (by decide) (fun c123 => ?_) (fun c123 => ?_)
                  · skip
                    exact J144 _ _ _ S1 By1 x1 x2 x3 v105 hP hS hO (by omega) (by omega) (by omega) (by assumption) (by assumption) (by assumption) (sU_rd r98 (by omega) (by omega)) (by omega) (by omega) _ (lv_sub hl [1, 2, 3, 4, 0] rfl)
                  · skip
                    refine lv_aload_n hx hb dX8_settles_126 rfl (lv_at hl 1 rfl) ?_
                    refine va_get (ci := 8) (C := RX8) (T := TX8) (N := 49) (v := .ref (ad 15)) hx hb hts inX8 hown hK hP 0 (zw_at (by decide) e117) rfl 26 (by decide) fl53 (fun _ h => h) rfl dX8_settles_127 ?_
                    refine lv_iload_n hx hb dX8_settles_130 rfl (lv_at hl 2 rfl) ?_
                    refine z_iald hx hb hK hP (q0 := 15) 0 (by decide) e121 rfl (by omega) dX8_settles_131 (fun v131 r131 => ?_)
                    refine lv_iload hx hb dX8_settles_132 (lv_at hl 0 rfl) ?_
                    refine lv_iadd hx hb dX8_settles_134 ?_
                    refine lv_topi (fun v134 _ => ?_)
                    refine lv_aload_n hx hb dX8_settles_135 rfl (lv_at hl 1 rfl) ?_
                    refine va_get (ci := 8) (C := RX8) (T := TX8) (N := 49) (v := .ref (ad 15)) hx hb hts inX8 hown hK hP 0 (zw_at (by decide) e117) rfl 26 (by decide) fl53 (fun _ h => h) rfl dX8_settles_136 ?_
                    refine lv_iload_n hx hb dX8_settles_139 rfl (lv_at hl 4 rfl) ?_
                    refine z_iald hx hb hK hP (q0 := 15) 0 (by decide) e121 rfl (by omega) dX8_settles_140 (fun v140 r140 => ?_)
                    have h140 : v140.toInt = v121.toInt := z_same r140 r121
                    refine z_icmp_ge (tgt := 166) hx hb dX8_settles_141 (by decide) (fun c141 => ?_) (fun c141 => ?_)
                    · skip
                      exact J166 _ _ _ S1 By1 x1 x2 x3 hP hS hO (by omega) (by omega) (by omega) (by assumption) (by assumption) (by assumption) (sU_rd r98 (by omega) (by omega)) (by omega) (by omega) _ (lv_sub hl [1, 2, 3, 4] rfl)
                    · skip
                      exact J144 _ _ _ S1 By1 x1 x2 x3 v105 hP hS hO (by omega) (by omega) (by omega) (by assumption) (by assumption) (by assumption) (sU_rd r98 (by omega) (by omega)) (by omega) (by omega) _ (lv_sub hl [1, 2, 3, 4, 0] rfl)
      intro H locs ce S1 By1 x1 hP hS hO q_x1 qx0 qx1 hm ls hl
      refine lv_iload_n hx hb dX8_settles_60 rfl (lv_at hl 1 rfl) ?_
      refine z_ic hx hb dX8_settles_61 (by decide) (fun v61 h61 => ?_)
      refine z_icmp_eq (tgt := 209) hx hb dX8_settles_62 (by decide) (fun c62 => ?_) (fun c62 => ?_)
      · skip
        exact z_retv hx hb hr hlocks hP hS dX8_settles_209 ⟨_, _, stl_tree hn.2 qx0, hO⟩
      · skip
        refine lv_aload_n hx hb dX8_settles_65 rfl (lv_at hl 0 rfl) ?_
        obtain ⟨v66, v66a, v66b, v66c, v66d, v66e, v66f, v66g, v66h, v66i, v66j, v66k, v66l, v66m, v66n, v66o, e66, h66, h66a, h66b, h66c, h66d, h66e, h66f, h66g, h66h, h66i, h66j, h66k, h66l, h66m, h66n, h66o, h66p, h66q, h66r, h66s, h66t, h66u⟩ := mg_Mo hO
        refine va_get (ci := 8) (C := RX8) (T := TX8) (N := 49) (v := .ref (ad 17)) hx hb hts inX8 hown hK hP 0 (zw_at (by decide) e66) rfl 28 (by decide) fl59 (fun _ h => h) rfl dX8_settles_66 ?_
        refine lv_iload_n hx hb dX8_settles_69 rfl (lv_at hl 1 rfl) ?_
        refine z_ic hx hb dX8_settles_70 (by decide) (fun v70 h70 => ?_)
        have e71 := mg_Se hO
        refine z_zast hx hb hK hJ hP hS (q0 := 17) 1 (by decide) e71 rfl (z_in (by omega) (by omega)) dX8_settles_71 (fun ce H locs e71a h71a hP hS => ?_)
        obtain ⟨S71, S71h⟩ : ∃ z, z = upd S1 x1.toNatClampNeg (vp_nar .boolean v70) := ⟨_, rfl⟩
        rw [← S71h] at e71a
        have hO := z_up2 (OKK := mK cy ad cnt nd wn S1 By1 Ah) (OKL := mK cy ad cnt nd wn S71 By1 Ah) 17 hO h71a (fun q e _ h => mK_S (by assumption) h) (by rw [e71a]; exact mE_Se |>.mpr rfl)
        have e71b := (h71a 0 (by omega)).trans e66
        refine z_ic hx hb dX8_settles_72 (by decide) (fun v72 h72 => ?_)
        refine lv_istore_n (lv' := [(2, .int v72), (0, .ref (ad 0)), (1, .int x1)]) hx hb dX8_settles_73 rfl hl (by decide) rfl (fun ls hl => ?_)
        refine z_ic hx hb dX8_settles_74 (by decide) (fun v74 h74 => ?_)
        refine lv_istore_n (lv' := [(3, .int v74), (2, .int v72), (0, .ref (ad 0)), (1, .int x1)]) hx hb dX8_settles_75 rfl hl (by decide) rfl (fun ls hl => ?_)
        exact L76 96 _ _ _ S71 By1 x1 v72 v74 hP hS hO (by omega) (by omega) (by omega) (by rw [S71h]; exact (sU_set qx0 qx1 (by omega) h70).1) (by rw [S71h]; exact (sU_set qx0 qx1 (by omega) h70).2.1) (fun q h => by exfalso; omega) (by have h9 := (sU_set qx0 qx1 (by omega) h70).2.2; rw [← S71h] at h9; omega) (by omega) _ (lv_sub hl [2, 3, 1, 0] rfl)
  have J59 : ∀ (H : Heap) (locs : List Loc) (ce : Nat → va_E) (S1 : Nat → Int32) (By1 : Nat → Int32) (s0 : Int32), va_P D vwCl (zw 34 ad ce) H → va_S (zA 34 ad) s.heap H locs → mOK cy ad cnt nd wn S1 By1 Ah ce → (-1 ≤ s0.toInt ∧ s0.toInt ≤ 0) → (sB nd S1 By1) → ∀ ls : Array Slot, lv_has ls 5 [(0, .ref (ad 0))] → W p l e { frames := 6, cells := 0, slots := 0, locals := 147 } s m ([.ref (ad 0)] : List Value).toArray below meth c H locs 0 0 (MQ below (zQv D 34 ad (fun ce => ∃ S2 By2, Tree nd By2 ∧ mOK cy ad cnt nd wn S2 By2 Ah ce)) ([.ref (ad 0)] : List Value).toArray s 0 0 (zA 34 ad)) (F0 m 59 ls [.int s0]) := by
    intro H locs ce S1 By1 s0 hP hS hO q_s0 qx0 ls hl
    refine lv_istore_n (lv' := [(1, .int s0), (0, .ref (ad 0))]) hx hb dX8_settles_59 rfl hl (by decide) rfl (fun ls hl => ?_)
    exact L60 96 _ _ _ S1 By1 s0 hP hS hO (by omega) (stl_init qx0) (fun q h => ⟨by omega, (qx0 q (by omega)).1⟩) (by have := cu_le S1 nd; omega) _ (lv_sub hl [1, 0] rfl)
  have L2 : ∀ N2 : Nat, ∀ (H : Heap) (locs : List Loc) (ce : Nat → va_E) (S1 : Nat → Int32) (By1 : Nat → Int32) (x1 : Int32), va_P D vwCl (zw 34 ad ce) H → va_S (zA 34 ad) s.heap H locs → mOK cy ad cnt nd wn S1 By1 Ah ce → (0 ≤ x1.toInt ∧ x1.toInt ≤ 94) → (sA S1 By1 x1) → (95 - x1.toInt ≤ (N2 : Int)) → ∀ ls : Array Slot, lv_has ls 5 [(0, .ref (ad 0)), (1, .int x1)] → W p l e { frames := 6, cells := 0, slots := 0, locals := 147 } s m ([.ref (ad 0)] : List Value).toArray below meth c H locs 0 0 (MQ below (zQv D 34 ad (fun ce => ∃ S2 By2, Tree nd By2 ∧ mOK cy ad cnt nd wn S2 By2 Ah ce)) ([.ref (ad 0)] : List Value).toArray s 0 0 (zA 34 ad)) (F0 m 2 ls []) := by
    intro N2
    induction N2 with
    | zero =>
      intro H locs ce S1 By1 x1 hP hS hO q_x1 qx0 hm ls hl
      exfalso; omega
    | succ N2 ih2 =>
      have J24 : ∀ (H : Heap) (locs : List Loc) (ce : Nat → va_E) (S1 : Nat → Int32) (By1 : Nat → Int32) (x1 : Int32) (s1 : Int32) (s2 : Int32), va_P D vwCl (zw 34 ad ce) H → va_S (zA 34 ad) s.heap H locs → mOK cy ad cnt nd wn S1 By1 Ah ce → (0 ≤ x1.toInt ∧ x1.toInt ≤ 93) → (0 ≤ s1.toInt ∧ s1.toInt ≤ 93) → (-1 ≤ s2.toInt ∧ s2.toInt ≤ 0) → (sA S1 By1 x1) → (95 - x1.toInt ≤ (N2 : Int) + 1) → ∀ ls : Array Slot, lv_has ls 5 [(0, .ref (ad 0)), (1, .int x1)] → W p l e { frames := 6, cells := 0, slots := 0, locals := 147 } s m ([.ref (ad 0)] : List Value).toArray below meth c H locs 0 0 (MQ below (zQv D 34 ad (fun ce => ∃ S2 By2, Tree nd By2 ∧ mOK cy ad cnt nd wn S2 By2 Ah ce)) ([.ref (ad 0)] : List Value).toArray s 0 0 (zA 34 ad)) (F0 m 24 ls [.int s2, .int s1, .ref (ad 15)]) := by
        intro H locs ce S1 By1 x1 s1 s2 hP hS hO q_x1 q_s1 q_s2 qx0 qm2 ls hl
        obtain ⟨f24, e24⟩ := mg_Fa hO
        refine z_iast hx hb hK hJ hP hS (q0 := 15) 0 (by decide) e24 rfl (z_in (by omega) (by omega)) dX8_settles_24 (fun ce H locs e24a h24a hP hS => ?_)
        have hO := z_up (OKK := mK cy ad cnt nd wn S1 By1 Ah) 15 hO h24a (by rw [e24a]; exact mE_Fa |>.mpr ⟨_, rfl⟩)
        refine lv_aload_n hx hb dX8_settles_25 rfl (lv_at hl 0 rfl) ?_
        obtain ⟨v26, v26a, v26b, v26c, v26d, v26e, v26f, v26g, v26h, v26i, v26j, v26k, v26l, v26m, v26n, v26o, e26, h26, h26a, h26b, h26c, h26d, h26e, h26f, h26g, h26h, h26i, h26j, h26k, h26l, h26m, h26n, h26o, h26p, h26q, h26r, h26s, h26t, h26u⟩ := mg_Mo hO
        refine va_get (ci := 8) (C := RX8) (T := TX8) (N := 49) (v := .ref (ad 16)) hx hb hts inX8 hown hK hP 0 (zw_at (by decide) e26) rfl 27 (by decide) fl56 (fun _ h => h) rfl dX8_settles_26 ?_
        refine lv_iload_n hx hb dX8_settles_29 rfl (lv_at hl 1 rfl) ?_
        refine z_ic hx hb dX8_settles_30 (by decide) (fun v30 h30 => ?_)
        obtain ⟨e31, h31⟩ := mg_By hO
        refine z_iast hx hb hK hJ hP hS (q0 := 16) 0 (by decide) e31 rfl (z_in (by omega) (by omega)) dX8_settles_31 (fun ce H locs e31a h31a hP hS => ?_)
        obtain ⟨By31, By31h⟩ : ∃ z, z = upd By1 x1.toNatClampNeg v30 := ⟨_, rfl⟩
        rw [← By31h] at e31a
        have By31c : ∀ i0 : Nat, i0 < 94 → -1 ≤ (By31 i0).toInt ∧ (By31 i0).toInt ≤ 93 := by rw [By31h]; exact fun i0 i1 => z_updc h31 (by omega) i0 i1
        have hO := z_up2 (OKK := mK cy ad cnt nd wn S1 By1 Ah) (OKL := mK cy ad cnt nd wn S1 By31 Ah) 16 hO h31a (fun q e _ h => mK_By (by assumption) h) (by rw [e31a]; exact mE_By |>.mpr ⟨rfl, By31c⟩)
        have e31b := (h31a 0 (by omega)).trans e26
        refine lv_aload_n hx hb dX8_settles_32 rfl (lv_at hl 0 rfl) ?_
        refine va_get (ci := 8) (C := RX8) (T := TX8) (N := 49) (v := .ref (ad 17)) hx hb hts inX8 hown hK hP 0 (zw_at (by decide) e31b) rfl 28 (by decide) fl59 (fun _ h => h) rfl dX8_settles_33 ?_
        refine lv_iload_n hx hb dX8_settles_36 rfl (lv_at hl 1 rfl) ?_
        refine z_ic hx hb dX8_settles_37 (by decide) (fun v37 h37 => ?_)
        have e38 := mg_Se hO
        refine z_zast hx hb hK hJ hP hS (q0 := 17) 1 (by decide) e38 rfl (z_in (by omega) (by omega)) dX8_settles_38 (fun ce H locs e38a h38a hP hS => ?_)
        obtain ⟨S38, S38h⟩ : ∃ z, z = upd S1 x1.toNatClampNeg (vp_nar .boolean v37) := ⟨_, rfl⟩
        rw [← S38h] at e38a
        have hO := z_up2 (OKK := mK cy ad cnt nd wn S1 By31 Ah) (OKL := mK cy ad cnt nd wn S38 By31 Ah) 17 hO h38a (fun q e _ h => mK_S (by assumption) h) (by rw [e38a]; exact mE_Se |>.mpr rfl)
        have e38b := (h38a 0 (by omega)).trans e31b
        refine z_iinc (lv' := fun w0 => [(1, .int w0), (0, .ref (ad 0))]) hx hb dX8_settles_39 hl (k := 1) rfl (by decide) (fun _ => rfl) (by decide) (by omega) (fun v39 ls h39 hl => ?_)
        refine lv_goto (tgt := 2) hx hb dX8_settles_42 (by decide) ?_
        exact ih2 _ _ _ S38 By31 v39 hP hS hO (by omega) (by rw [S38h, By31h]; exact sA_step qx0 (by omega) h39 h37 h30) (by omega) _ (lv_sub hl [1, 0] rfl)
      intro H locs ce S1 By1 x1 hP hS hO q_x1 qx0 hm ls hl
      refine lv_iload_n hx hb dX8_settles_2 rfl (lv_at hl 1 rfl) ?_
      refine lv_aload_n hx hb dX8_settles_3 rfl (lv_at hl 0 rfl) ?_
      obtain ⟨v4, v4a, v4b, v4c, v4d, v4e, v4f, v4g, v4h, v4i, v4j, v4k, v4l, v4m, v4n, v4o, e4, h4, h4a, h4b, h4c, h4d, h4e, h4f, h4g, h4h, h4i, h4j, h4k, h4l, h4m, h4n, h4o, h4p, h4q, h4r, h4s, h4t, h4u⟩ := mg_Mo hO
      refine va_get (ci := 8) (C := RX8) (T := TX8) (N := 49) (v := .int v4k) hx hb hts inX8 hown hK hP 0 (zw_at (by decide) e4) rfl 21 (by decide) fl214 (fun _ h => h) rfl dX8_settles_4 ?_
      refine z_icmp_ge (tgt := 45) hx hb dX8_settles_7 (by decide) (fun c7 => ?_) (fun c7 => ?_)
      · skip
        refine lv_aload_n hx hb dX8_settles_45 rfl (lv_at hl 0 rfl) ?_
        refine va_get (ci := 8) (C := RX8) (T := TX8) (N := 49) (v := .ref (ad 11)) hx hb hts inX8 hown hK hP 0 (zw_at (by decide) e4) rfl 22 (by decide) fl41 (fun _ h => h) rfl dX8_settles_46 ?_
        refine z_ic hx hb dX8_settles_49 (by decide) (fun v49 h49 => ?_)
        obtain ⟨f50, e50⟩ := mg_In hO
        refine z_zald hx hb hK hP (q0 := 11) 1 (by decide) e50 rfl (by omega) dX8_settles_50 (fun v50 r50 => ?_)
        refine z_if_eq (tgt := 58) hx hb dX8_settles_51 (by decide) (fun c51 => ?_) (fun c51 => ?_)
        · skip
          refine z_ic hx hb dX8_settles_58 (by decide) (fun v58 h58 => ?_)
          exact J59 _ _ _ S1 By1 v58 hP hS hO (by omega) (fun j h => qx0 j (by omega)) _ (lv_sub hl [0] rfl)
        · skip
          refine z_ic hx hb dX8_settles_54 (by decide) (fun v54 h54 => ?_)
          refine lv_goto (tgt := 59) hx hb dX8_settles_55 (by decide) ?_
          exact J59 _ _ _ S1 By1 v54 hP hS hO (by omega) (fun j h => qx0 j (by omega)) _ (lv_sub hl [0] rfl)
      · skip
        refine lv_aload_n hx hb dX8_settles_10 rfl (lv_at hl 0 rfl) ?_
        refine va_get (ci := 8) (C := RX8) (T := TX8) (N := 49) (v := .ref (ad 15)) hx hb hts inX8 hown hK hP 0 (zw_at (by decide) e4) rfl 26 (by decide) fl53 (fun _ h => h) rfl dX8_settles_11 ?_
        refine lv_iload_n hx hb dX8_settles_14 rfl (lv_at hl 1 rfl) ?_
        refine lv_iload_n hx hb dX8_settles_15 rfl (lv_at hl 1 rfl) ?_
        refine z_if_ne (tgt := 23) hx hb dX8_settles_16 (by decide) (fun c16 => ?_) (fun c16 => ?_)
        · skip
          refine z_ic hx hb dX8_settles_23 (by decide) (fun v23 h23 => ?_)
          exact J24 _ _ _ S1 By1 x1 x1 v23 hP hS hO (by omega) (by omega) (by omega) (by assumption) (by omega) _ (lv_sub hl [0, 1] rfl)
        · skip
          refine z_ic hx hb dX8_settles_19 (by decide) (fun v19 h19 => ?_)
          refine lv_goto (tgt := 24) hx hb dX8_settles_20 (by decide) ?_
          exact J24 _ _ _ S1 By1 x1 x1 v19 hP hS hO (by omega) (by omega) (by omega) (by assumption) (by omega) _ (lv_sub hl [0, 1] rfl)
  intro ls hl
  have hl : lv_has ls 5 [(0, .ref (ad 0))] := hl
  refine z_ic hx hb dX8_settles_0 (by decide) (fun v0 h0 => ?_)
  refine lv_istore_n (lv' := [(1, .int v0), (0, .ref (ad 0))]) hx hb dX8_settles_1 rfl hl (by decide) rfl (fun ls hl => ?_)
  exact L2 96 _ _ _ S By v0 hP hS hO (by omega) (fun j h => by exfalso; omega) (by omega) _ (lv_sub hl [1, 0] rfl)
set_option maxHeartbeats 8000000 in
set_option maxRecDepth 100000 in
theorem c_X8_readBack (l : Launch) (D : va_G) (cy : Nat → ClassId) (ad : Nat → Nat) (cnt : Nat → Nat) (nd : Nat) (wn : Nat) (S : Nat → Int32) (By : Nat → Int32) (Ah : Nat → Int32) (hJ : zJ 34 ad) (hT : Tree nd By) (hn : 2 ≤ nd ∧ nd ≤ 94) : zM l D (mT cy) 34 ad (mOK cy ad cnt nd wn S By Ah) yX8_readBack vsX8_readBack { frames := 0, cells := 0, slots := 0, locals := 0 } ([.ref (ad 0)] : List Value) (zQv D 34 ad (fun ce => ∃ wn2 : Nat, (1 ≤ wn2 ∧ wn2 ≤ 94) ∧ mOK cy ad cnt nd wn2 S By Ah ce)) := by
  refine z_of (cc := cX8_readBack) (maxL := 3) (ret := none) (by decide) rfl (Nat.le_of_ble_eq_true rfl) ?_
  intro p e s m below meth c hx hb hr hts hown hlocks hml hK hN ce hOK hP
  have hown : s.vm.findClass RX8 = some m.cls := hown
  have hS : va_S (zA 34 ad) s.heap s.heap [] := va_S.rf
  have hO := hOK
  have inX8 : ∀ w ∈ u_ws RX8 TX8 49, w ∈ vsX8_readBack := fun w h => List.mem_cons_of_mem _ (inlX8 w h)
  have fl56 := hts (.fieldLink RX8 56 "GroundKeeperModel" "by" "[I") (List.mem_cons_of_mem _ mw_414)
  have fl62 := hts (.fieldLink RX8 62 "GroundKeeperModel" "way" "[I") (List.mem_cons_of_mem _ mw_416)
  have fl237 := hts (.fieldLink RX8 237 "GroundKeeperModel" "wayLong" "I") (List.mem_cons_of_mem _ mw_417)
  have L39 : ∀ N39 : Nat, ∀ (H : Heap) (locs : List Loc) (ce : Nat → va_E) (wn1 : Nat) (x1 : Int32) (x2 : Int32), va_P D vwCl (zw 34 ad ce) H → va_S (zA 34 ad) s.heap H locs → mOK cy ad cnt nd wn1 S By Ah ce → (0 ≤ x1.toInt ∧ x1.toInt ≤ 94) → (-1 ≤ x2.toInt ∧ x2.toInt ≤ 93) → (vN nd x2) → (x1.toInt = (ck By 95 x2.toInt : Int)) → (1 ≤ wn1 ∧ wn1 ≤ 94) → ((ck By 95 x2.toInt : Int) + 1 ≤ (N39 : Int)) → ∀ ls : Array Slot, lv_has ls 3 [(0, .ref (ad 0)), (1, .int x1), (2, .int x2)] → W p l e { frames := 0, cells := 0, slots := 0, locals := 0 } s m ([.ref (ad 0)] : List Value).toArray below meth c H locs 0 0 (MQ below (zQv D 34 ad (fun ce => ∃ wn2 : Nat, (1 ≤ wn2 ∧ wn2 ≤ 94) ∧ mOK cy ad cnt nd wn2 S By Ah ce)) ([.ref (ad 0)] : List Value).toArray s 0 0 (zA 34 ad)) (F0 m 39 ls []) := by
    intro N39
    induction N39 with
    | zero =>
      intro H locs ce wn1 x1 x2 hP hS hO q_x1 q_x2 qx0 qx1 qx2 hm ls hl
      exfalso; omega
    | succ N39 ih39 =>
      intro H locs ce wn1 x1 x2 hP hS hO q_x1 q_x2 qx0 qx1 qx2 hm ls hl
      refine lv_iload_n hx hb dX8_readBack_39 rfl (lv_at hl 2 rfl) ?_
      refine z_ic hx hb dX8_readBack_40 (by decide) (fun v40 h40 => ?_)
      refine z_icmp_eq (tgt := 64) hx hb dX8_readBack_41 (by decide) (fun c41 => ?_) (fun c41 => ?_)
      · skip
        exact z_retv hx hb hr hlocks hP hS dX8_readBack_64 ⟨_, by omega, hO⟩
      · skip
        have k2 := ck_pos By (i := x2.toInt) (by omega)
        refine z_iinc (lv' := fun w0 => [(1, .int w0), (0, .ref (ad 0)), (2, .int x2)]) hx hb dX8_readBack_44 hl (k := 1) rfl (by decide) (fun _ => rfl) (by decide) (by omega) (fun v44 ls h44 hl => ?_)
        refine lv_aload_n hx hb dX8_readBack_47 rfl (lv_at hl 1 rfl) ?_
        obtain ⟨v48, v48a, v48b, v48c, v48d, v48e, v48f, v48g, v48h, v48i, v48j, v48k, v48l, v48m, v48n, v48o, e48, h48, h48a, h48b, h48c, h48d, h48e, h48f, h48g, h48h, h48i, h48j, h48k, h48l, h48m, h48n, h48o, h48p, h48q, h48r, h48s, h48t, h48u⟩ := mg_Mo hO
        refine va_get (ci := 8) (C := RX8) (T := TX8) (N := 49) (v := .ref (ad 18)) hx hb hts inX8 hown hK hP 0 (zw_at (by decide) e48) rfl 30 (by decide) fl62 (fun _ h => h) rfl dX8_readBack_48 ?_
        refine lv_iload_n hx hb dX8_readBack_51 rfl (lv_at hl 0 rfl) ?_
        refine lv_iload_n hx hb dX8_readBack_52 rfl (lv_at hl 2 rfl) ?_
        obtain ⟨f53, e53, h53⟩ := mg_Wy hO
        refine z_iast hx hb hK hJ hP hS (q0 := 18) 0 (by decide) e53 rfl (z_in (by omega) (by omega)) dX8_readBack_53 (fun ce H locs e53a h53a hP hS => ?_)
        have hO := z_up (OKK := mK cy ad cnt nd wn1 S By Ah) 18 hO h53a (by rw [e53a]; exact mE_Wy |>.mpr ⟨_, rfl, fun i0 i1 => z_updc h53 (by omega) i0 i1⟩)
        have e53b := (h53a 0 (by omega)).trans e48
        refine lv_aload_n hx hb dX8_readBack_54 rfl (lv_at hl 1 rfl) ?_
        refine va_get (ci := 8) (C := RX8) (T := TX8) (N := 49) (v := .ref (ad 16)) hx hb hts inX8 hown hK hP 0 (zw_at (by decide) e53b) rfl 27 (by decide) fl56 (fun _ h => h) rfl dX8_readBack_55 ?_
        refine lv_iload_n hx hb dX8_readBack_58 rfl (lv_at hl 2 rfl) ?_
        obtain ⟨e59, h59⟩ := mg_By hO
        refine z_iald hx hb hK hP (q0 := 16) 0 (by decide) e59 rfl (by omega) dX8_readBack_59 (fun v59 r59 => ?_)
        have h59a : -1 ≤ v59.toInt ∧ v59.toInt ≤ 93 := by obtain ⟨i0, _, i1, i2⟩ := r59; rw [i2]; exact h59 i0 i1
        refine lv_istore_n (lv' := [(2, .int v59), (1, .int v44), (0, .ref (ad 0))]) hx hb dX8_readBack_60 rfl hl (by decide) rfl (fun ls hl => ?_)
        refine lv_goto (tgt := 39) hx hb dX8_readBack_61 (by decide) ?_
        exact ih39 _ _ _ wn1 v44 v59 hP hS hO (by omega) (by omega) (ck_next hT r59 qx0).2 (by have h9 := (ck_next hT r59 qx0).1; omega) (by omega) (by have h9 := (ck_next hT r59 qx0).1; omega) _ (lv_sub hl [2, 1, 0] rfl)
  have L7 : ∀ N7 : Nat, ∀ (H : Heap) (locs : List Loc) (ce : Nat → va_E) (wn1 : Nat) (x1 : Int32), va_P D vwCl (zw 34 ad ce) H → va_S (zA 34 ad) s.heap H locs → mOK cy ad cnt nd wn1 S By Ah ce → (-1 ≤ x1.toInt ∧ x1.toInt ≤ 93) → (vN nd x1) → ((wn1 : Int) + (ck By 95 x1.toInt : Int) = (ck By 95 1 : Int)) → ((ck By 95 x1.toInt : Int) + 1 ≤ (N7 : Int)) → ∀ ls : Array Slot, lv_has ls 3 [(0, .ref (ad 0)), (1, .int x1)] → W p l e { frames := 0, cells := 0, slots := 0, locals := 0 } s m ([.ref (ad 0)] : List Value).toArray below meth c H locs 0 0 (MQ below (zQv D 34 ad (fun ce => ∃ wn2 : Nat, (1 ≤ wn2 ∧ wn2 ≤ 94) ∧ mOK cy ad cnt nd wn2 S By Ah ce)) ([.ref (ad 0)] : List Value).toArray s 0 0 (zA 34 ad)) (F0 m 7 ls []) := by
    intro N7
    induction N7 with
    | zero =>
      intro H locs ce wn1 x1 hP hS hO q_x1 qx0 qx1 hm ls hl
      exfalso; omega
    | succ N7 ih7 =>
      intro H locs ce wn1 x1 hP hS hO q_x1 qx0 qx1 hm ls hl
      refine lv_iload_n hx hb dX8_readBack_7 rfl (lv_at hl 1 rfl) ?_
      refine z_ic hx hb dX8_readBack_8 (by decide) (fun v8 h8 => ?_)
      refine z_icmp_eq (tgt := 32) hx hb dX8_readBack_9 (by decide) (fun c9 => ?_) (fun c9 => ?_)
      · skip
        have k1 := ck_top hT hn.1
        have k2 := ck_neg By 95 (i := x1.toInt) (by omega)
        refine lv_aload_n hx hb dX8_readBack_32 rfl (lv_at hl 0 rfl) ?_
        obtain ⟨v33, v33a, v33b, v33c, v33d, v33e, v33f, v33g, v33h, v33i, v33j, v33k, v33l, v33m, v33n, v33o, e33, h33, h33a, h33b, h33c, h33d, h33e, h33f, h33g, h33h, h33i, h33j, h33k, h33l, h33m, h33n, h33o, h33p, h33q, h33r, h33s, h33t, h33u⟩ := mg_Mo hO
        refine va_get (ci := 8) (C := RX8) (T := TX8) (N := 49) (v := .int v33l) hx hb hts inX8 hown hK hP 0 (zw_at (by decide) e33) rfl 29 (by decide) fl237 (fun _ h => h) rfl dX8_readBack_33 ?_
        refine lv_istore_n (lv' := [(1, .int v33l), (0, .ref (ad 0))]) hx hb dX8_readBack_36 rfl hl (by decide) rfl (fun ls hl => ?_)
        refine z_ic hx hb dX8_readBack_37 (by decide) (fun v37 h37 => ?_)
        refine lv_istore_n (lv' := [(2, .int v37), (1, .int v33l), (0, .ref (ad 0))]) hx hb dX8_readBack_38 rfl hl (by decide) rfl (fun ls hl => ?_)
        exact L39 97 _ _ _ wn1 v33l v37 hP hS hO (by omega) (by omega) (fun q h => by omega) (by rw [h37]; omega) (by omega) (by have := ck_le By 95 v37.toInt; omega) _ (lv_sub hl [2, 1, 0] rfl)
      · skip
        have k1 := ck_top hT hn.1
        have k2 := ck_pos By (i := x1.toInt) (by omega)
        refine lv_aload_n hx hb dX8_readBack_12 rfl (lv_at hl 0 rfl) ?_
        refine lv_dup hx hb dX8_readBack_13 rfl ?_
        obtain ⟨v14, v14a, v14b, v14c, v14d, v14e, v14f, v14g, v14h, v14i, v14j, v14k, v14l, v14m, v14n, v14o, e14, h14, h14a, h14b, h14c, h14d, h14e, h14f, h14g, h14h, h14i, h14j, h14k, h14l, h14m, h14n, h14o, h14p, h14q, h14r, h14s, h14t, h14u⟩ := mg_Mo hO
        refine va_get (ci := 8) (C := RX8) (T := TX8) (N := 49) (v := .int v14l) hx hb hts inX8 hown hK hP 0 (zw_at (by decide) e14) rfl 29 (by decide) fl237 (fun _ h => h) rfl dX8_readBack_14 ?_
        refine z_ic hx hb dX8_readBack_17 (by decide) (fun v17 h17 => ?_)
        refine z_addE hx hb dX8_readBack_18 (by omega) (fun v18 h18 => ?_)
        refine z_put (q0 := 0) (ci := 8) (C := RX8) (T := TX8) (N := 49) hx hb hts inX8 tyX8 tyX8_ok nmX8 hown hK hJ hP hS (by decide) e14 rfl 29 (by decide) fl237 (fun _ h => h) rfl (ty := .int) (by decide +kernel) rfl rfl (Nat.le_of_ble_eq_true rfl) (fs1 := [.int v14, .ref (ad 1), .ref (ad 2), .ref (ad 3), .int v14a, .ref (ad 4), .ref (ad 5), .int v14b, .ref (ad 6), .ref (ad 7), .int v14c, .ref (ad 8), .int v14d, .int v14e, .int v14f, .int v14g, .int v14h, .int v14i, .int v14j, .ref (ad 9), .ref (ad 10), .int v14k, .ref (ad 11), .ref (ad 12), .ref (ad 13), .ref (ad 14), .ref (ad 15), .ref (ad 16), .ref (ad 17), .int v18, .ref (ad 18), .int v14m, .ref (ad 19), .ref (ad 20), .ref (ad 21), .int v14n, .ref (ad 22), .ref (ad 23), .ref (ad 24), .ref (ad 25), .ref (ad 26), .ref (ad 27), .ref (ad 28), .ref (ad 29), .ref (ad 30), .ref (ad 31), .ref (ad 32), .ref (ad 33), .int v14o]) rfl dX8_readBack_19 (fun ce H locs e19 h19 hP hS => ?_)
        obtain ⟨wn19, wn19h⟩ : ∃ z : Nat, (z : Int) = v18.toInt := ⟨v18.toInt.toNat, by omega⟩
        have hO := z_up2 (OKK := mK cy ad cnt nd wn1 S By Ah) (OKL := mK cy ad cnt nd wn19 S By Ah) 0 hO h19 (fun q e _ h => mK_wn (by assumption) h) (by rw [e19]; exact mE_Mo |>.mpr ⟨v14, v14a, v14b, v14c, v14d, v14e, v14f, v14g, v14h, v14i, v14j, v14k, v18, v14m, v14n, v14o, rfl, by omega, by omega, by omega, by omega, by omega, by omega, by omega, by omega, by omega, by omega, by omega, by omega, by omega, by omega, by omega, by omega, by omega, by omega, h14r, h14s, h14t, h14u⟩)
        refine lv_aload_n hx hb dX8_readBack_22 rfl (lv_at hl 0 rfl) ?_
        refine va_get (ci := 8) (C := RX8) (T := TX8) (N := 49) (v := .ref (ad 16)) hx hb hts inX8 hown hK hP 0 (zw_at (by decide) e19) rfl 27 (by decide) fl56 (fun _ h => h) rfl dX8_readBack_23 ?_
        refine lv_iload_n hx hb dX8_readBack_26 rfl (lv_at hl 1 rfl) ?_
        obtain ⟨e27, h27⟩ := mg_By hO
        refine z_iald hx hb hK hP (q0 := 16) 0 (by decide) e27 rfl (by omega) dX8_readBack_27 (fun v27 r27 => ?_)
        have h27a : -1 ≤ v27.toInt ∧ v27.toInt ≤ 93 := by obtain ⟨i0, _, i1, i2⟩ := r27; rw [i2]; exact h27 i0 i1
        refine lv_istore_n (lv' := [(1, .int v27), (0, .ref (ad 0))]) hx hb dX8_readBack_28 rfl hl (by decide) rfl (fun ls hl => ?_)
        refine lv_goto (tgt := 7) hx hb dX8_readBack_29 (by decide) ?_
        exact ih7 _ _ _ wn19 v27 hP hS hO (by omega) (ck_next hT r27 qx0).2 (by have h9 := (ck_next hT r27 qx0).1; omega) (by have h9 := (ck_next hT r27 qx0).1; omega) _ (lv_sub hl [1, 0] rfl)
  intro ls hl
  have hl : lv_has ls 3 [(0, .ref (ad 0))] := hl
  refine lv_aload_n hx hb dX8_readBack_0 rfl (lv_at hl 0 rfl) ?_
  refine z_ic hx hb dX8_readBack_1 (by decide) (fun v1 h1 => ?_)
  obtain ⟨v2, v2a, v2b, v2c, v2d, v2e, v2f, v2g, v2h, v2i, v2j, v2k, v2l, v2m, v2n, v2o, e2, h2, h2a, h2b, h2c, h2d, h2e, h2f, h2g, h2h, h2i, h2j, h2k, h2l, h2m, h2n, h2o, h2p, h2q, h2r, h2s, h2t, h2u⟩ := mg_Mo hO
  refine z_put (q0 := 0) (ci := 8) (C := RX8) (T := TX8) (N := 49) hx hb hts inX8 tyX8 tyX8_ok nmX8 hown hK hJ hP hS (by decide) e2 rfl 29 (by decide) fl237 (fun _ h => h) rfl (ty := .int) (by decide +kernel) rfl rfl (Nat.le_of_ble_eq_true rfl) (fs1 := [.int v2, .ref (ad 1), .ref (ad 2), .ref (ad 3), .int v2a, .ref (ad 4), .ref (ad 5), .int v2b, .ref (ad 6), .ref (ad 7), .int v2c, .ref (ad 8), .int v2d, .int v2e, .int v2f, .int v2g, .int v2h, .int v2i, .int v2j, .ref (ad 9), .ref (ad 10), .int v2k, .ref (ad 11), .ref (ad 12), .ref (ad 13), .ref (ad 14), .ref (ad 15), .ref (ad 16), .ref (ad 17), .int v1, .ref (ad 18), .int v2m, .ref (ad 19), .ref (ad 20), .ref (ad 21), .int v2n, .ref (ad 22), .ref (ad 23), .ref (ad 24), .ref (ad 25), .ref (ad 26), .ref (ad 27), .ref (ad 28), .ref (ad 29), .ref (ad 30), .ref (ad 31), .ref (ad 32), .ref (ad 33), .int v2o]) rfl dX8_readBack_2 (fun ce H locs e2a h2v hP hS => ?_)
  obtain ⟨wn2, wn2h⟩ : ∃ z : Nat, (z : Int) = v1.toInt := ⟨v1.toInt.toNat, by omega⟩
  have hO := z_up2 (OKK := mK cy ad cnt nd wn S By Ah) (OKL := mK cy ad cnt nd wn2 S By Ah) 0 hO h2v (fun q e _ h => mK_wn (by assumption) h) (by rw [e2a]; exact mE_Mo |>.mpr ⟨v2, v2a, v2b, v2c, v2d, v2e, v2f, v2g, v2h, v2i, v2j, v2k, v1, v2m, v2n, v2o, rfl, by omega, by omega, by omega, by omega, by omega, by omega, by omega, by omega, by omega, by omega, by omega, by omega, by omega, by omega, by omega, by omega, by omega, by omega, h2r, h2s, h2t, h2u⟩)
  refine z_ic hx hb dX8_readBack_5 (by decide) (fun v5 h5 => ?_)
  refine lv_istore_n (lv' := [(1, .int v5), (0, .ref (ad 0))]) hx hb dX8_readBack_6 rfl hl (by decide) rfl (fun ls hl => ?_)
  exact L7 97 _ _ _ wn2 v5 hP hS hO (by omega) (fun q h => by omega) (by rw [h5]; omega) (by have := ck_le By 95 v5.toInt; omega) _ (lv_sub hl [1, 0] rfl)
