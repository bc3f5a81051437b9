set_option maxHeartbeats 8000000 in
set_option maxRecDepth 100000 in
theorem c_X8_leg (l : Launch) (D : va_G) (cy : Nat → ClassId) (ad : Nat → Nat) (cnt : Nat → Nat) (nd : Nat) (wn : Nat) (S : Nat → Int32) (By : Nat → Int32) (Ah : Nat → Int32) (hJ : zJ 34 ad) (p1 : Int32) (p2 : Int32) (p3 : Int32) (p4 : Int32) : zM l D (mT cy) 34 ad (mOK cy ad cnt nd wn S By Ah) yX8_leg vsX8_leg { frames := 1, cells := 0, slots := 0, locals := 20 } ([.ref (ad 0), .int p1, .int p2, .int p3, .int p4] : List Value) (zQv D 34 ad (fun ce => mOK cy ad cnt nd wn S By Ah ce ∧ (True))) := by
  refine z_of (cc := cX8_leg) (maxL := 5) (ret := none) (by decide) rfl (Nat.le_of_ble_eq_true rfl) ?_
  intro p e s m below meth c hx hb hr hts hown hlocks hml hK hN ce hOK hP
  have hown : s.vm.findClass RX8 = some m.cls := hown
  have hS : va_S (zA 34 ad) s.heap s.heap [] := va_S.rf
  have hO := hOK
  have inX8 : ∀ w ∈ u_ws RX8 TX8 49, w ∈ vsX8_leg := fun w h => List.mem_cons_of_mem _ (inlX8 w h)
  have fl155 := hts (.fieldLink RX8 155 "GroundKeeperModel" "lx" "I") (List.mem_cons_of_mem _ mw_329)
  have fl158 := hts (.fieldLink RX8 158 "GroundKeeperModel" "ly" "I") (List.mem_cons_of_mem _ mw_330)
  have fl161 := hts (.fieldLink RX8 161 "GroundKeeperModel" "dx" "I") (List.mem_cons_of_mem _ mw_331)
  have fl164 := hts (.fieldLink RX8 164 "GroundKeeperModel" "dy" "I") (List.mem_cons_of_mem _ mw_332)
  have fl171 := hts (.fieldLink RX8 171 "GroundKeeperModel" "parts" "I") (List.mem_cons_of_mem _ mw_333)
  have J62 : ∀ (H : Heap) (locs : List Loc) (ce : Nat → va_E) (s1 : Int32) (s2 : Int32), va_P D vwCl (zw 34 ad ce) H → va_S (zA 34 ad) s.heap H locs → mOK cy ad cnt nd wn S By Ah ce → ∀ ls : Array Slot, lv_has ls 5 [] → W p l e { frames := 1, cells := 0, slots := 0, locals := 20 } s m ([.ref (ad 0), .int p1, .int p2, .int p3, .int p4] : List Value).toArray below meth c H locs 0 0 (MQ below (zQv D 34 ad (fun ce => mOK cy ad cnt nd wn S By Ah ce ∧ (True))) ([.ref (ad 0), .int p1, .int p2, .int p3, .int p4] : List Value).toArray s 0 0 (zA 34 ad)) (F0 m 62 ls [.int s2, .int s1, .ref (ad 0)]) := by
    intro H locs ce s1 s2 hP hS hO ls hl
    refine lv_imul hx hb dX8_leg_62 ?_
    refine lv_topi (fun v62 _ => ?_)
    obtain ⟨v63, v63a, v63b, v63c, v63d, v63e, v63f, v63g, v63h, v63i, v63j, v63k, v63l, v63m, v63n, v63o, e63, h63, h63a, h63b, h63c, h63d, h63e, h63f, h63g, h63h, h63i, h63j, h63k, h63l, h63m, h63n, h63o, h63p, h63q, h63r, h63s, h63t, h63u⟩ := mg_Mo hO
    refine z_put (q0 := 0) (ci := 8) (C := RX8) (T := TX8) (N := 49) hx hb hts inX8 tyX8 tyX8_ok nmX8 hown hK hJ hP hS (by decide) e63 rfl 16 (by decide) fl171 (fun _ h => h) rfl (ty := .int) (by decide +kernel) rfl rfl (Nat.le_of_ble_eq_true rfl) (fs1 := [.int v63, .ref (ad 1), .ref (ad 2), .ref (ad 3), .int v63a, .ref (ad 4), .ref (ad 5), .int v63b, .ref (ad 6), .ref (ad 7), .int v63c, .ref (ad 8), .int v63d, .int v63e, .int v63f, .int v63g, .int v62, .int v63i, .int v63j, .ref (ad 9), .ref (ad 10), .int v63k, .ref (ad 11), .ref (ad 12), .ref (ad 13), .ref (ad 14), .ref (ad 15), .ref (ad 16), .ref (ad 17), .int v63l, .ref (ad 18), .int v63m, .ref (ad 19), .ref (ad 20), .ref (ad 21), .int v63n, .ref (ad 22), .ref (ad 23), .ref (ad 24), .ref (ad 25), .ref (ad 26), .ref (ad 27), .ref (ad 28), .ref (ad 29), .ref (ad 30), .ref (ad 31), .ref (ad 32), .ref (ad 33), .int v63o]) rfl dX8_leg_63 (fun ce H locs e63a h63v hP hS => ?_)
    have hO := z_up (OKK := mK cy ad cnt nd wn S By Ah) 0 hO h63v (by rw [e63a]; exact mE_Mo |>.mpr ⟨v63, v63a, v63b, v63c, v63d, v63e, v63f, v63g, v62, v63i, v63j, v63k, v63l, v63m, v63n, v63o, rfl, h63, h63a, h63b, h63c, h63d, h63e, h63f, h63g, h63h, h63i, h63j, h63k, h63l, h63m, h63n, h63o, h63p, h63q, h63r, h63s, h63t, h63u⟩)
    exact z_retv hx hb hr hlocks hP hS dX8_leg_66 ⟨hO, trivial⟩
  have J44 : ∀ (H : Heap) (locs : List Loc) (ce : Nat → va_E) (s1 : Int32), va_P D vwCl (zw 34 ad ce) H → va_S (zA 34 ad) s.heap H locs → mOK cy ad cnt nd wn S By Ah ce → ∀ ls : Array Slot, lv_has ls 5 [(0, .ref (ad 0))] → W p l e { frames := 1, cells := 0, slots := 0, locals := 20 } s m ([.ref (ad 0), .int p1, .int p2, .int p3, .int p4] : List Value).toArray below meth c H locs 0 0 (MQ below (zQv D 34 ad (fun ce => mOK cy ad cnt nd wn S By Ah ce ∧ (True))) ([.ref (ad 0), .int p1, .int p2, .int p3, .int p4] : List Value).toArray s 0 0 (zA 34 ad)) (F0 m 44 ls [.int s1, .ref (ad 0)]) := by
    intro H locs ce s1 hP hS hO ls hl
    refine lv_aload_n hx hb dX8_leg_44 rfl (lv_at hl 0 rfl) ?_
    obtain ⟨v45, v45a, v45b, v45c, v45d, v45e, v45f, v45g, v45h, v45i, v45j, v45k, v45l, v45m, v45n, v45o, e45, h45, h45a, h45b, h45c, h45d, h45e, h45f, h45g, h45h, h45i, h45j, h45k, h45l, h45m, h45n, h45o, h45p, h45q, h45r, h45s, h45t, h45u⟩ := mg_Mo hO
    refine va_get (ci := 8) (C := RX8) (T := TX8) (N := 49) (v := .int v45g) hx hb hts inX8 hown hK hP 0 (zw_at (by decide) e45) rfl 15 (by decide) fl164 (fun _ h => h) rfl dX8_leg_45 ?_
    refine z_if_ne (tgt := 55) hx hb dX8_leg_48 (by decide) (fun c48 => ?_) (fun c48 => ?_)
    · skip
      refine lv_aload_n hx hb dX8_leg_55 rfl (lv_at hl 0 rfl) ?_
      refine va_get (ci := 8) (C := RX8) (T := TX8) (N := 49) (v := .int v45g) hx hb hts inX8 hown hK hP 0 (zw_at (by decide) e45) rfl 15 (by decide) fl164 (fun _ h => h) rfl dX8_leg_56 ?_
      refine z_ciP (z_rS (As := [.int v45g]) (rest := [.int s1, .ref (ad 0)]) ⟨hx, hb, hml, hown, hts⟩ (c_X8_size l D (mT cy) 34 ad (fun c1 => c1 = ce) v45g) (va_cwS 1 hts (g_S mw_350 mw_351 mw_324 mw_352) rfl rfl rfl (by decide +kernel) ⟨Nat.le_of_ble_eq_true rfl, Nat.le_of_ble_eq_true rfl⟩) hK hN rfl hP rfl hl.1 rfl (Nat.le_of_ble_eq_true rfl) dX8_leg_59 ⟨Nat.zero_le _, Nat.zero_le _⟩) hS (fun _ h => h) (fun v59 H locs h59 hP hS => ?_)
      exact J62 _ _ _ s1 v59 hP hS hO _ (lv_sub hl [] rfl)
    · skip
      refine z_ic hx hb dX8_leg_51 (by decide) (fun v51 h51 => ?_)
      refine lv_goto (tgt := 62) hx hb dX8_leg_52 (by decide) ?_
      exact J62 _ _ _ s1 v51 hP hS hO _ (lv_sub hl [] rfl)
  intro ls hl
  have hl : lv_has ls 5 [(0, .ref (ad 0)), (1, .int p1), (2, .int p2), (3, .int p3), (4, .int p4)] := hl
  refine lv_aload_n hx hb dX8_leg_0 rfl (lv_at hl 0 rfl) ?_
  refine lv_iload_n hx hb dX8_leg_1 rfl (lv_at hl 1 rfl) ?_
  obtain ⟨v2, v2a, v2b, v2c, v2d, v2e, v2f, v2g, v2h, v2i, v2j, v2k, v2l, v2m, v2n, v2o, e2, h2, h2a, h2b, h2c, h2d, h2e, h2f, h2g, h2h, h2i, h2j, h2k, h2l, h2m, h2n, h2o, h2p, h2q, h2r, h2s, h2t, h2u⟩ := mg_Mo hO
  refine z_put (q0 := 0) (ci := 8) (C := RX8) (T := TX8) (N := 49) hx hb hts inX8 tyX8 tyX8_ok nmX8 hown hK hJ hP hS (by decide) e2 rfl 12 (by decide) fl155 (fun _ h => h) rfl (ty := .int) (by decide +kernel) rfl rfl (Nat.le_of_ble_eq_true rfl) (fs1 := [.int v2, .ref (ad 1), .ref (ad 2), .ref (ad 3), .int v2a, .ref (ad 4), .ref (ad 5), .int v2b, .ref (ad 6), .ref (ad 7), .int v2c, .ref (ad 8), .int p1, .int v2e, .int v2f, .int v2g, .int v2h, .int v2i, .int v2j, .ref (ad 9), .ref (ad 10), .int v2k, .ref (ad 11), .ref (ad 12), .ref (ad 13), .ref (ad 14), .ref (ad 15), .ref (ad 16), .ref (ad 17), .int v2l, .ref (ad 18), .int v2m, .ref (ad 19), .ref (ad 20), .ref (ad 21), .int v2n, .ref (ad 22), .ref (ad 23), .ref (ad 24), .ref (ad 25), .ref (ad 26), .ref (ad 27), .ref (ad 28), .ref (ad 29), .ref (ad 30), .ref (ad 31), .ref (ad 32), .ref (ad 33), .int v2o]) rfl dX8_leg_2 (fun ce H locs e2a h2v hP hS => ?_)
  have hO := z_up (OKK := mK cy ad cnt nd wn S By Ah) 0 hO h2v (by rw [e2a]; exact mE_Mo |>.mpr ⟨v2, v2a, v2b, v2c, p1, v2e, v2f, v2g, v2h, v2i, v2j, v2k, v2l, v2m, v2n, v2o, rfl, h2, h2a, h2b, h2c, h2d, h2e, h2f, h2g, h2h, h2i, h2j, h2k, h2l, h2m, h2n, h2o, h2p, h2q, h2r, h2s, h2t, h2u⟩)
  refine lv_aload_n hx hb dX8_leg_5 rfl (lv_at hl 0 rfl) ?_
  refine lv_iload_n hx hb dX8_leg_6 rfl (lv_at hl 2 rfl) ?_
  refine z_put (q0 := 0) (ci := 8) (C := RX8) (T := TX8) (N := 49) hx hb hts inX8 tyX8 tyX8_ok nmX8 hown hK hJ hP hS (by decide) e2a rfl 13 (by decide) fl158 (fun _ h => h) rfl (ty := .int) (by decide +kernel) rfl rfl (Nat.le_of_ble_eq_true rfl) (fs1 := [.int v2, .ref (ad 1), .ref (ad 2), .ref (ad 3), .int v2a, .ref (ad 4), .ref (ad 5), .int v2b, .ref (ad 6), .ref (ad 7), .int v2c, .ref (ad 8), .int p1, .int p2, .int v2f, .int v2g, .int v2h, .int v2i, .int v2j, .ref (ad 9), .ref (ad 10), .int v2k, .ref (ad 11), .ref (ad 12), .ref (ad 13), .ref (ad 14), .ref (ad 15), .ref (ad 16), .ref (ad 17), .int v2l, .ref (ad 18), .int v2m, .ref (ad 19), .ref (ad 20), .ref (ad 21), .int v2n, .ref (ad 22), .ref (ad 23), .ref (ad 24), .ref (ad 25), .ref (ad 26), .ref (ad 27), .ref (ad 28), .ref (ad 29), .ref (ad 30), .ref (ad 31), .ref (ad 32), .ref (ad 33), .int v2o]) rfl dX8_leg_7 (fun ce H locs e7 h7 hP hS => ?_)
  have hO := z_up (OKK := mK cy ad cnt nd wn S By Ah) 0 hO h7 (by rw [e7]; exact mE_Mo |>.mpr ⟨v2, v2a, v2b, v2c, p1, p2, v2f, v2g, v2h, v2i, v2j, v2k, v2l, v2m, v2n, v2o, rfl, h2, h2a, h2b, h2c, h2d, h2e, h2f, h2g, h2h, h2i, h2j, h2k, h2l, h2m, h2n, h2o, h2p, h2q, h2r, h2s, h2t, h2u⟩)
  refine lv_aload_n hx hb dX8_leg_10 rfl (lv_at hl 0 rfl) ?_
  refine lv_iload_n hx hb dX8_leg_11 rfl (lv_at hl 3 rfl) ?_
  refine lv_iload_n hx hb dX8_leg_12 rfl (lv_at hl 1 rfl) ?_
  refine lv_isub hx hb dX8_leg_13 ?_
  refine lv_topi (fun v13 _ => ?_)
  refine z_put (q0 := 0) (ci := 8) (C := RX8) (T := TX8) (N := 49) hx hb hts inX8 tyX8 tyX8_ok nmX8 hown hK hJ hP hS (by decide) e7 rfl 14 (by decide) fl161 (fun _ h => h) rfl (ty := .int) (by decide +kernel) rfl rfl (Nat.le_of_ble_eq_true rfl) (fs1 := [.int v2, .ref (ad 1), .ref (ad 2), .ref (ad 3), .int v2a, .ref (ad 4), .ref (ad 5), .int v2b, .ref (ad 6), .ref (ad 7), .int v2c, .ref (ad 8), .int p1, .int p2, .int v13, .int v2g, .int v2h, .int v2i, .int v2j, .ref (ad 9), .ref (ad 10), .int v2k, .ref (ad 11), .ref (ad 12), .ref (ad 13), .ref (ad 14), .ref (ad 15), .ref (ad 16), .ref (ad 17), .int v2l, .ref (ad 18), .int v2m, .ref (ad 19), .ref (ad 20), .ref (ad 21), .int v2n, .ref (ad 22), .ref (ad 23), .ref (ad 24), .ref (ad 25), .ref (ad 26), .ref (ad 27), .ref (ad 28), .ref (ad 29), .ref (ad 30), .ref (ad 31), .ref (ad 32), .ref (ad 33), .int v2o]) rfl dX8_leg_14 (fun ce H locs e14 h14 hP hS => ?_)
  have hO := z_up (OKK := mK cy ad cnt nd wn S By Ah) 0 hO h14 (by rw [e14]; exact mE_Mo |>.mpr ⟨v2, v2a, v2b, v2c, p1, p2, v13, v2g, v2h, v2i, v2j, v2k, v2l, v2m, v2n, v2o, rfl, h2, h2a, h2b, h2c, h2d, h2e, h2f, h2g, h2h, h2i, h2j, h2k, h2l, h2m, h2n, h2o, h2p, h2q, h2r, h2s, h2t, h2u⟩)
  refine lv_aload_n hx hb dX8_leg_17 rfl (lv_at hl 0 rfl) ?_
  refine lv_iload hx hb dX8_leg_18 (lv_at hl 4 rfl) ?_
  refine lv_iload_n hx hb dX8_leg_20 rfl (lv_at hl 2 rfl) ?_
  refine lv_isub hx hb dX8_leg_21 ?_
  refine lv_topi (fun v21 _ => ?_)
  refine z_put (q0 := 0) (ci := 8) (C := RX8) (T := TX8) (N := 49) hx hb hts inX8 tyX8 tyX8_ok nmX8 hown hK hJ hP hS (by decide) e14 rfl 15 (by decide) fl164 (fun _ h => h) rfl (ty := .int) (by decide +kernel) rfl rfl (Nat.le_of_ble_eq_true rfl) (fs1 := [.int v2, .ref (ad 1), .ref (ad 2), .ref (ad 3), .int v2a, .ref (ad 4), .ref (ad 5), .int v2b, .ref (ad 6), .ref (ad 7), .int v2c, .ref (ad 8), .int p1, .int p2, .int v13, .int v21, .int v2h, .int v2i, .int v2j, .ref (ad 9), .ref (ad 10), .int v2k, .ref (ad 11), .ref (ad 12), .ref (ad 13), .ref (ad 14), .ref (ad 15), .ref (ad 16), .ref (ad 17), .int v2l, .ref (ad 18), .int v2m, .ref (ad 19), .ref (ad 20), .ref (ad 21), .int v2n, .ref (ad 22), .ref (ad 23), .ref (ad 24), .ref (ad 25), .ref (ad 26), .ref (ad 27), .ref (ad 28), .ref (ad 29), .ref (ad 30), .ref (ad 31), .ref (ad 32), .ref (ad 33), .int v2o]) rfl dX8_leg_22 (fun ce H locs e22 h22 hP hS => ?_)
  have hO := z_up (OKK := mK cy ad cnt nd wn S By Ah) 0 hO h22 (by rw [e22]; exact mE_Mo |>.mpr ⟨v2, v2a, v2b, v2c, p1, p2, v13, v21, v2h, v2i, v2j, v2k, v2l, v2m, v2n, v2o, rfl, h2, h2a, h2b, h2c, h2d, h2e, h2f, h2g, h2h, h2i, h2j, h2k, h2l, h2m, h2n, h2o, h2p, h2q, h2r, h2s, h2t, h2u⟩)
  refine lv_aload_n hx hb dX8_leg_25 rfl (lv_at hl 0 rfl) ?_
  refine lv_aload_n hx hb dX8_leg_26 rfl (lv_at hl 0 rfl) ?_
  refine va_get (ci := 8) (C := RX8) (T := TX8) (N := 49) (v := .int v13) hx hb hts inX8 hown hK hP 0 (zw_at (by decide) e22) rfl 14 (by decide) fl161 (fun _ h => h) rfl dX8_leg_27 ?_
  refine z_if_ne (tgt := 37) hx hb dX8_leg_30 (by decide) (fun c30 => ?_) (fun c30 => ?_)
  · skip
    refine lv_aload_n hx hb dX8_leg_37 rfl (lv_at hl 0 rfl) ?_
    refine va_get (ci := 8) (C := RX8) (T := TX8) (N := 49) (v := .int v13) hx hb hts inX8 hown hK hP 0 (zw_at (by decide) e22) rfl 14 (by decide) fl161 (fun _ h => h) rfl dX8_leg_38 ?_
    refine z_ciP (z_rS (As := [.int v13]) (rest := [.ref (ad 0)]) ⟨hx, hb, hml, hown, hts⟩ (c_X8_size l D (mT cy) 34 ad (fun c1 => c1 = ce) v13) (va_cwS 1 hts (g_S mw_350 mw_351 mw_324 mw_352) rfl rfl rfl (by decide +kernel) ⟨Nat.le_of_ble_eq_true rfl, Nat.le_of_ble_eq_true rfl⟩) hK hN rfl hP rfl hl.1 rfl (Nat.le_of_ble_eq_true rfl) dX8_leg_41 ⟨Nat.zero_le _, Nat.zero_le _⟩) hS (fun _ h => h) (fun v41 H locs h41 hP hS => ?_)
    exact J44 _ _ _ v41 hP hS hO _ (lv_sub hl [0] rfl)
  · skip
    refine z_ic hx hb dX8_leg_33 (by decide) (fun v33 h33 => ?_)
    refine lv_goto (tgt := 44) hx hb dX8_leg_34 (by decide) ?_
    exact J44 _ _ _ v33 hP hS hO _ (lv_sub hl [0] rfl)
set_option maxHeartbeats 8000000 in
set_option maxRecDepth 100000 in
theorem c_X8_cuts (l : Launch) (D : va_G) (cy : Nat → ClassId) (ad : Nat → Nat) (cnt : Nat → Nat) (nd : Nat) (wn : Nat) (S : Nat → Int32) (By : Nat → Int32) (Ah : Nat → Int32) (hJ : zJ 34 ad) (p1 : Int32) (p2 : Int32) (p3 : Int32) (p4 : Int32) : zM l D (mT cy) 34 ad (mOK cy ad cnt nd wn S By Ah) yX8_cuts vsX8_cuts { frames := 1, cells := 0, slots := 0, locals := 20 } ([.ref (ad 0), .int p1, .int p2, .int p3, .int p4] : List Value) (zQi D 34 ad (fun r ce => mOK cy ad cnt nd wn S By Ah ce ∧ (0 ≤ r.toInt ∧ r.toInt ≤ 1))) := by
  refine z_of (cc := cX8_cuts) (maxL := 8) (ret := (some .boolean)) (by decide) rfl (Nat.le_of_ble_eq_true rfl) ?_
  intro p e s m below meth c hx hb hr hts hown hlocks hml hK hN ce hOK hP
  have hown : s.vm.findClass RX8 = some m.cls := hown
  have hS : va_S (zA 34 ad) s.heap s.heap [] := va_S.rf
  have hO := hOK
  have inX8 : ∀ w ∈ u_ws RX8 TX8 49, w ∈ vsX8_cuts := fun w h => List.mem_cons_of_mem _ (inlX8 w h)
  have fl171 := hts (.fieldLink RX8 171 "GroundKeeperModel" "parts" "I") (List.mem_cons_of_mem _ mw_333)
  have fl174 := hts (.fieldLink RX8 174 "GroundKeeperModel" "from" "I") (List.mem_cons_of_mem _ mw_334)
  have fl177 := hts (.fieldLink RX8 177 "GroundKeeperModel" "to" "I") (List.mem_cons_of_mem _ mw_335)
  have J111 : ∀ (H : Heap) (locs : List Loc) (ce : Nat → va_E) (s1 : Int32), va_P D vwCl (zw 34 ad ce) H → va_S (zA 34 ad) s.heap H locs → mOK cy ad cnt nd wn S By Ah ce → ∀ ls : Array Slot, lv_has ls 8 [] → W p l e { frames := 1, cells := 0, slots := 0, locals := 20 } s m ([.ref (ad 0), .int p1, .int p2, .int p3, .int p4] : List Value).toArray below meth c H locs 0 0 (MQ below (zQi D 34 ad (fun r ce => mOK cy ad cnt nd wn S By Ah ce ∧ (0 ≤ r.toInt ∧ r.toInt ≤ 1))) ([.ref (ad 0), .int p1, .int p2, .int p3, .int p4] : List Value).toArray s 0 0 (zA 34 ad)) (F0 m 111 ls [.int s1, .ref (ad 0)]) := by
    intro H locs ce s1 hP hS hO ls hl
    obtain ⟨v111, v111a, v111b, v111c, v111d, v111e, v111f, v111g, v111h, v111i, v111j, v111k, v111l, v111m, v111n, v111o, e111, h111, h111a, h111b, h111c, h111d, h111e, h111f, h111g, h111h, h111i, h111j, h111k, h111l, h111m, h111n, h111o, h111p, h111q, h111r, h111s, h111t, h111u⟩ := mg_Mo hO
    refine z_put (q0 := 0) (ci := 8) (C := RX8) (T := TX8) (N := 49) hx hb hts inX8 tyX8 tyX8_ok nmX8 hown hK hJ hP hS (by decide) e111 rfl 18 (by decide) fl177 (fun _ h => h) rfl (ty := .int) (by decide +kernel) rfl rfl (Nat.le_of_ble_eq_true rfl) (fs1 := [.int v111, .ref (ad 1), .ref (ad 2), .ref (ad 3), .int v111a, .ref (ad 4), .ref (ad 5), .int v111b, .ref (ad 6), .ref (ad 7), .int v111c, .ref (ad 8), .int v111d, .int v111e, .int v111f, .int v111g, .int v111h, .int v111i, .int s1, .ref (ad 9), .ref (ad 10), .int v111k, .ref (ad 11), .ref (ad 12), .ref (ad 13), .ref (ad 14), .ref (ad 15), .ref (ad 16), .ref (ad 17), .int v111l, .ref (ad 18), .int v111m, .ref (ad 19), .ref (ad 20), .ref (ad 21), .int v111n, .ref (ad 22), .ref (ad 23), .ref (ad 24), .ref (ad 25), .ref (ad 26), .ref (ad 27), .ref (ad 28), .ref (ad 29), .ref (ad 30), .ref (ad 31), .ref (ad 32), .ref (ad 33), .int v111o]) rfl dX8_cuts_111 (fun ce H locs e111a h111v hP hS => ?_)
    have hO := z_up (OKK := mK cy ad cnt nd wn S By Ah) 0 hO h111v (by rw [e111a]; exact mE_Mo |>.mpr ⟨v111, v111a, v111b, v111c, v111d, v111e, v111f, v111g, v111h, v111i, s1, v111k, v111l, v111m, v111n, v111o, rfl, h111, h111a, h111b, h111c, h111d, h111e, h111f, h111g, h111h, h111i, h111j, h111k, h111l, h111m, h111n, h111o, h111p, h111q, h111r, h111s, h111t, h111u⟩)
    refine z_ic hx hb dX8_cuts_114 (by decide) (fun v114 h114 => ?_)
    exact z_retz hx hb hr hlocks hP hS dX8_cuts_115 (by omega) ⟨hO, (by omega)⟩
  have J89 : ∀ (H : Heap) (locs : List Loc) (ce : Nat → va_E) (x7 : Int32) (s1 : Int32), va_P D vwCl (zw 34 ad ce) H → va_S (zA 34 ad) s.heap H locs → mOK cy ad cnt nd wn S By Ah ce → ∀ ls : Array Slot, lv_has ls 8 [(0, .ref (ad 0)), (7, .int x7)] → W p l e { frames := 1, cells := 0, slots := 0, locals := 20 } s m ([.ref (ad 0), .int p1, .int p2, .int p3, .int p4] : List Value).toArray below meth c H locs 0 0 (MQ below (zQi D 34 ad (fun r ce => mOK cy ad cnt nd wn S By Ah ce ∧ (0 ≤ r.toInt ∧ r.toInt ≤ 1))) ([.ref (ad 0), .int p1, .int p2, .int p3, .int p4] : List Value).toArray s 0 0 (zA 34 ad)) (F0 m 89 ls [.int s1, .ref (ad 0)]) := by
    intro H locs ce x7 s1 hP hS hO ls hl
    obtain ⟨v89, v89a, v89b, v89c, v89d, v89e, v89f, v89g, v89h, v89i, v89j, v89k, v89l, v89m, v89n, v89o, e89, h89, h89a, h89b, h89c, h89d, h89e, h89f, h89g, h89h, h89i, h89j, h89k, h89l, h89m, h89n, h89o, h89p, h89q, h89r, h89s, h89t, h89u⟩ := mg_Mo hO
    refine z_put (q0 := 0) (ci := 8) (C := RX8) (T := TX8) (N := 49) hx hb hts inX8 tyX8 tyX8_ok nmX8 hown hK hJ hP hS (by decide) e89 rfl 17 (by decide) fl174 (fun _ h => h) rfl (ty := .int) (by decide +kernel) rfl rfl (Nat.le_of_ble_eq_true rfl) (fs1 := [.int v89, .ref (ad 1), .ref (ad 2), .ref (ad 3), .int v89a, .ref (ad 4), .ref (ad 5), .int v89b, .ref (ad 6), .ref (ad 7), .int v89c, .ref (ad 8), .int v89d, .int v89e, .int v89f, .int v89g, .int v89h, .int s1, .int v89j, .ref (ad 9), .ref (ad 10), .int v89k, .ref (ad 11), .ref (ad 12), .ref (ad 13), .ref (ad 14), .ref (ad 15), .ref (ad 16), .ref (ad 17), .int v89l, .ref (ad 18), .int v89m, .ref (ad 19), .ref (ad 20), .ref (ad 21), .int v89n, .ref (ad 22), .ref (ad 23), .ref (ad 24), .ref (ad 25), .ref (ad 26), .ref (ad 27), .ref (ad 28), .ref (ad 29), .ref (ad 30), .ref (ad 31), .ref (ad 32), .ref (ad 33), .int v89o]) rfl dX8_cuts_89 (fun ce H locs e89a h89v hP hS => ?_)
    have hO := z_up (OKK := mK cy ad cnt nd wn S By Ah) 0 hO h89v (by rw [e89a]; exact mE_Mo |>.mpr ⟨v89, v89a, v89b, v89c, v89d, v89e, v89f, v89g, v89h, s1, v89j, v89k, v89l, v89m, v89n, v89o, rfl, h89, h89a, h89b, h89c, h89d, h89e, h89f, h89g, h89h, h89i, h89j, h89k, h89l, h89m, h89n, h89o, h89p, h89q, h89r, h89s, h89t, h89u⟩)
    refine lv_aload_n hx hb dX8_cuts_92 rfl (lv_at hl 0 rfl) ?_
    refine lv_iload hx hb dX8_cuts_93 (lv_at hl 1 rfl) ?_
    refine lv_aload_n hx hb dX8_cuts_95 rfl (lv_at hl 0 rfl) ?_
    refine va_get (ci := 8) (C := RX8) (T := TX8) (N := 49) (v := .int v89j) hx hb hts inX8 hown hK hP 0 (zw_at (by decide) e89a) rfl 18 (by decide) fl177 (fun _ h => h) rfl dX8_cuts_96 ?_
    refine z_icmp_ge (tgt := 107) hx hb dX8_cuts_99 (by decide) (fun c99 => ?_) (fun c99 => ?_)
    · skip
      refine lv_aload_n hx hb dX8_cuts_107 rfl (lv_at hl 0 rfl) ?_
      refine va_get (ci := 8) (C := RX8) (T := TX8) (N := 49) (v := .int v89j) hx hb hts inX8 hown hK hP 0 (zw_at (by decide) e89a) rfl 18 (by decide) fl177 (fun _ h => h) rfl dX8_cuts_108 ?_
      exact J111 _ _ _ v89j hP hS hO _ (lv_sub hl [] rfl)
    · skip
      refine lv_iload hx hb dX8_cuts_102 (lv_at hl 1 rfl) ?_
      refine lv_goto (tgt := 111) hx hb dX8_cuts_104 (by decide) ?_
      exact J111 _ _ _ x7 hP hS hO _ (lv_sub hl [] rfl)
  have J65 : ∀ (H : Heap) (locs : List Loc) (ce : Nat → va_E) (x5 : Int32) (x6 : Int32) (s0 : Int32), va_P D vwCl (zw 34 ad ce) H → va_S (zA 34 ad) s.heap H locs → mOK cy ad cnt nd wn S By Ah ce → ∀ ls : Array Slot, lv_has ls 8 [(0, .ref (ad 0)), (5, .int x5), (6, .int x6)] → W p l e { frames := 1, cells := 0, slots := 0, locals := 20 } s m ([.ref (ad 0), .int p1, .int p2, .int p3, .int p4] : List Value).toArray below meth c H locs 0 0 (MQ below (zQi D 34 ad (fun r ce => mOK cy ad cnt nd wn S By Ah ce ∧ (0 ≤ r.toInt ∧ r.toInt ≤ 1))) ([.ref (ad 0), .int p1, .int p2, .int p3, .int p4] : List Value).toArray s 0 0 (zA 34 ad)) (F0 m 65 ls [.int s0]) := by
    intro H locs ce x5 x6 s0 hP hS hO ls hl
    refine lv_iload hx hb dX8_cuts_65 (lv_at hl 1 rfl) ?_
    refine lv_imul hx hb dX8_cuts_67 ?_
    refine lv_topi (fun v67 _ => ?_)
    refine lv_istore (lv' := [(7, .int v67), (0, .ref (ad 0)), (5, .int x5), (6, .int x6)]) hx hb dX8_cuts_68 hl (by decide) rfl (fun ls hl => ?_)
    refine lv_aload_n hx hb dX8_cuts_70 rfl (lv_at hl 1 rfl) ?_
    refine lv_iload hx hb dX8_cuts_71 (lv_at hl 3 rfl) ?_
    refine lv_aload_n hx hb dX8_cuts_73 rfl (lv_at hl 1 rfl) ?_
    obtain ⟨v74, v74a, v74b, v74c, v74d, v74e, v74f, v74g, v74h, v74i, v74j, v74k, v74l, v74m, v74n, v74o, e74, h74, h74a, h74b, h74c, h74d, h74e, h74f, h74g, h74h, h74i, h74j, h74k, h74l, h74m, h74n, h74o, h74p, h74q, h74r, h74s, h74t, h74u⟩ := mg_Mo hO
    refine va_get (ci := 8) (C := RX8) (T := TX8) (N := 49) (v := .int v74i) hx hb hts inX8 hown hK hP 0 (zw_at (by decide) e74) rfl 17 (by decide) fl174 (fun _ h => h) rfl dX8_cuts_74 ?_
    refine z_icmp_le (tgt := 85) hx hb dX8_cuts_77 (by decide) (fun c77 => ?_) (fun c77 => ?_)
    · skip
      refine lv_aload_n hx hb dX8_cuts_85 rfl (lv_at hl 1 rfl) ?_
      refine va_get (ci := 8) (C := RX8) (T := TX8) (N := 49) (v := .int v74i) hx hb hts inX8 hown hK hP 0 (zw_at (by decide) e74) rfl 17 (by decide) fl174 (fun _ h => h) rfl dX8_cuts_86 ?_
      exact J89 _ _ _ v67 v74i hP hS hO _ (lv_sub hl [1, 0] rfl)
    · skip
      refine lv_iload hx hb dX8_cuts_80 (lv_at hl 3 rfl) ?_
      refine lv_goto (tgt := 89) hx hb dX8_cuts_82 (by decide) ?_
      exact J89 _ _ _ v67 x6 hP hS hO _ (lv_sub hl [1, 0] rfl)
  have J46 : ∀ (H : Heap) (locs : List Loc) (ce : Nat → va_E) (x1 : Int32) (x2 : Int32) (x3 : Int32) (x4 : Int32) (x5 : Int32) (s0 : Int32), va_P D vwCl (zw 34 ad ce) H → va_S (zA 34 ad) s.heap H locs → mOK cy ad cnt nd wn S By Ah ce → ∀ ls : Array Slot, lv_has ls 8 [(0, .ref (ad 0)), (1, .int x1), (2, .int x2), (3, .int x3), (4, .int x4), (5, .int x5)] → W p l e { frames := 1, cells := 0, slots := 0, locals := 20 } s m ([.ref (ad 0), .int p1, .int p2, .int p3, .int p4] : List Value).toArray below meth c H locs 0 0 (MQ below (zQi D 34 ad (fun r ce => mOK cy ad cnt nd wn S By Ah ce ∧ (0 ≤ r.toInt ∧ r.toInt ≤ 1))) ([.ref (ad 0), .int p1, .int p2, .int p3, .int p4] : List Value).toArray s 0 0 (zA 34 ad)) (F0 m 46 ls [.int s0]) := by
    intro H locs ce x1 x2 x3 x4 x5 s0 hP hS hO ls hl
    refine lv_iload hx hb dX8_cuts_46 (lv_at hl 5 rfl) ?_
    refine lv_imul hx hb dX8_cuts_48 ?_
    refine lv_topi (fun v48 _ => ?_)
    refine lv_istore (lv' := [(6, .int v48), (0, .ref (ad 0)), (1, .int x1), (2, .int x2), (3, .int x3), (4, .int x4), (5, .int x5)]) hx hb dX8_cuts_49 hl (by decide) rfl (fun ls hl => ?_)
    refine lv_iload_n hx hb dX8_cuts_51 rfl (lv_at hl 3 rfl) ?_
    refine z_if_le (tgt := 62) hx hb dX8_cuts_52 (by decide) (fun c52 => ?_) (fun c52 => ?_)
    · skip
      refine lv_iload_n hx hb dX8_cuts_62 rfl (lv_at hl 2 rfl) ?_
      refine lv_iload_n hx hb dX8_cuts_63 rfl (lv_at hl 4 rfl) ?_
      refine lv_isub hx hb dX8_cuts_64 ?_
      refine lv_topi (fun v64 _ => ?_)
      exact J65 _ _ _ x5 v48 v64 hP hS hO _ (lv_sub hl [1, 6, 0] rfl)
    · skip
      refine lv_iload hx hb dX8_cuts_55 (lv_at hl 5 rfl) ?_
      refine lv_iload_n hx hb dX8_cuts_57 rfl (lv_at hl 2 rfl) ?_
      refine lv_isub hx hb dX8_cuts_58 ?_
      refine lv_topi (fun v58 _ => ?_)
      refine lv_goto (tgt := 65) hx hb dX8_cuts_59 (by decide) ?_
      exact J65 _ _ _ x5 v48 v58 hP hS hO _ (lv_sub hl [1, 6, 0] rfl)
  intro ls hl
  have hl : lv_has ls 8 [(0, .ref (ad 0)), (1, .int p1), (2, .int p2), (3, .int p3), (4, .int p4)] := hl
  refine lv_iload_n hx hb dX8_cuts_0 rfl (lv_at hl 2 rfl) ?_
  refine z_if_ne (tgt := 21) hx hb dX8_cuts_1 (by decide) (fun c1 => ?_) (fun c1 => ?_)
  · skip
    refine lv_aload_n hx hb dX8_cuts_21 rfl (lv_at hl 0 rfl) ?_
    obtain ⟨v22, v22a, v22b, v22c, v22d, v22e, v22f, v22g, v22h, v22i, v22j, v22k, v22l, v22m, v22n, v22o, e22, h22, h22a, h22b, h22c, h22d, h22e, h22f, h22g, h22h, h22i, h22j, h22k, h22l, h22m, h22n, h22o, h22p, h22q, h22r, h22s, h22t, h22u⟩ := mg_Mo hO
    refine va_get (ci := 8) (C := RX8) (T := TX8) (N := 49) (v := .int v22h) hx hb hts inX8 hown hK hP 0 (zw_at (by decide) e22) rfl 16 (by decide) fl171 (fun _ h => h) rfl dX8_cuts_22 ?_
    refine lv_iload_n hx hb dX8_cuts_25 rfl (lv_at hl 2 rfl) ?_
    refine z_ciP (z_rS (As := [.int p2]) (rest := [.int v22h]) ⟨hx, hb, hml, hown, hts⟩ (c_X8_size l D (mT cy) 34 ad (fun c1 => c1 = ce) p2) (va_cwS 1 hts (g_S mw_350 mw_351 mw_324 mw_352) rfl rfl rfl (by decide +kernel) ⟨Nat.le_of_ble_eq_true rfl, Nat.le_of_ble_eq_true rfl⟩) hK hN rfl hP rfl hl.1 rfl (Nat.le_of_ble_eq_true rfl) dX8_cuts_26 ⟨Nat.zero_le _, Nat.zero_le _⟩) hS (fun _ h => h) (fun v26 H locs h26 hP hS => ?_)
    refine lv_idiv hx hb dX8_cuts_29 (z_ne0 (by omega)) ?_
    refine lv_topi (fun v29 _ => ?_)
    refine lv_istore (lv' := [(5, .int v29), (0, .ref (ad 0)), (1, .int p1), (2, .int p2), (3, .int p3), (4, .int p4)]) hx hb dX8_cuts_30 hl (by decide) rfl (fun ls hl => ?_)
    refine lv_iload_n hx hb dX8_cuts_32 rfl (lv_at hl 3 rfl) ?_
    refine z_if_le (tgt := 42) hx hb dX8_cuts_33 (by decide) (fun c33 => ?_) (fun c33 => ?_)
    · skip
      refine lv_iload_n hx hb dX8_cuts_42 rfl (lv_at hl 2 rfl) ?_
      refine lv_iload hx hb dX8_cuts_43 (lv_at hl 5 rfl) ?_
      refine lv_isub hx hb dX8_cuts_45 ?_
      refine lv_topi (fun v45 _ => ?_)
      exact J46 _ _ _ p1 p2 p3 p4 v29 v45 hP hS hO _ (lv_sub hl [1, 2, 3, 4, 5, 0] rfl)
    · skip
      refine lv_iload_n hx hb dX8_cuts_36 rfl (lv_at hl 4 rfl) ?_
      refine lv_iload_n hx hb dX8_cuts_37 rfl (lv_at hl 2 rfl) ?_
      refine lv_isub hx hb dX8_cuts_38 ?_
      refine lv_topi (fun v38 _ => ?_)
      refine lv_goto (tgt := 46) hx hb dX8_cuts_39 (by decide) ?_
      exact J46 _ _ _ p1 p2 p3 p4 v29 v38 hP hS hO _ (lv_sub hl [1, 2, 3, 4, 5, 0] rfl)
  · skip
    refine lv_iload_n hx hb dX8_cuts_4 rfl (lv_at hl 1 rfl) ?_
    refine lv_iload_n hx hb dX8_cuts_5 rfl (lv_at hl 3 rfl) ?_
    refine z_icmp_lt (tgt := 19) hx hb dX8_cuts_6 (by decide) (fun c6 => ?_) (fun c6 => ?_)
    · skip
      refine z_ic hx hb dX8_cuts_19 (by decide) (fun v19 h19 => ?_)
      exact z_retz hx hb hr hlocks hP hS dX8_cuts_20 (by omega) ⟨hO, (by omega)⟩
    · skip
      refine lv_iload_n hx hb dX8_cuts_9 rfl (lv_at hl 1 rfl) ?_
      refine lv_iload hx hb dX8_cuts_10 (lv_at hl 4 rfl) ?_
      refine z_icmp_gt (tgt := 19) hx hb dX8_cuts_12 (by decide) (fun c12 => ?_) (fun c12 => ?_)
      · skip
        refine z_ic hx hb dX8_cuts_19 (by decide) (fun v19 h19 => ?_)
        exact z_retz hx hb hr hlocks hP hS dX8_cuts_20 (by omega) ⟨hO, (by omega)⟩
      · skip
        refine z_ic hx hb dX8_cuts_15 (by decide) (fun v15 h15 => ?_)
        refine lv_goto (tgt := 20) hx hb dX8_cuts_16 (by decide) ?_
        exact z_retz hx hb hr hlocks hP hS dX8_cuts_20 (by omega) ⟨hO, (by omega)⟩
set_option maxHeartbeats 8000000 in
set_option maxRecDepth 100000 in
theorem c_X8_meets_Rm (l : Launch) (D : va_G) (cy : Nat → ClassId) (ad : Nat → Nat) (cnt : Nat → Nat) (nd : Nat) (wn : Nat) (S : Nat → Int32) (By : Nat → Int32) (Ah : Nat → Int32) (hJ : zJ 34 ad) (p2 : Int32) (q_p2 : 0 ≤ p2.toInt ∧ p2.toInt ≤ 11) : zM l D (mT cy) 34 ad (mOK cy ad cnt nd wn S By Ah) yX8_meets vsX8_meets { frames := 2, cells := 0, slots := 0, locals := 47 } ([.ref (ad 0), .ref (ad 1), .int p2] : List Value) (zQi D 34 ad (fun r ce => mOK cy ad cnt nd wn S By Ah ce ∧ (0 ≤ r.toInt ∧ r.toInt ≤ 1))) := by
  refine z_of (cc := cX8_meets) (maxL := 3) (ret := (some .boolean)) (by decide) rfl (Nat.le_of_ble_eq_true rfl) ?_
  intro p e s m below meth c hx hb hr hts hown hlocks hml hK hN ce hOK hP
  have hown : s.vm.findClass RX8 = some m.cls := hown
  have hS : va_S (zA 34 ad) s.heap s.heap [] := va_S.rf
  have hO := hOK
  have inX8 : ∀ w ∈ u_ws RX8 TX8 49, w ∈ vsX8_meets := fun w h => List.mem_cons_of_mem _ (inlX8 w h)
  have fl155 := hts (.fieldLink RX8 155 "GroundKeeperModel" "lx" "I") (List.mem_cons_of_mem _ mw_329)
  have fl158 := hts (.fieldLink RX8 158 "GroundKeeperModel" "ly" "I") (List.mem_cons_of_mem _ mw_330)
  have fl161 := hts (.fieldLink RX8 161 "GroundKeeperModel" "dx" "I") (List.mem_cons_of_mem _ mw_331)
  have fl164 := hts (.fieldLink RX8 164 "GroundKeeperModel" "dy" "I") (List.mem_cons_of_mem _ mw_332)
  have fl171 := hts (.fieldLink RX8 171 "GroundKeeperModel" "parts" "I") (List.mem_cons_of_mem _ mw_333)
  have fl174 := hts (.fieldLink RX8 174 "GroundKeeperModel" "from" "I") (List.mem_cons_of_mem _ mw_334)
  have fl177 := hts (.fieldLink RX8 177 "GroundKeeperModel" "to" "I") (List.mem_cons_of_mem _ mw_335)
  intro ls hl
  have hl : lv_has ls 3 [(0, .ref (ad 0)), (1, .ref (ad 1)), (2, .int p2)] := hl
  refine lv_aload_n hx hb dX8_meets_0 rfl (lv_at hl 0 rfl) ?_
  refine z_ic hx hb dX8_meets_1 (by decide) (fun v1 h1 => ?_)
  obtain ⟨v2, v2a, v2b, v2c, v2d, v2e, v2f, v2g, v2h, v2i, v2j, v2k, v2l, v2m, v2n, v2o, e2, h2, h2a, h2b, h2c, h2d, h2e, h2f, h2g, h2h, h2i, h2j, h2k, h2l, h2m, h2n, h2o, h2p, h2q, h2r, h2s, h2t, h2u⟩ := mg_Mo hO
  refine z_put (q0 := 0) (ci := 8) (C := RX8) (T := TX8) (N := 49) hx hb hts inX8 tyX8 tyX8_ok nmX8 hown hK hJ hP hS (by decide) e2 rfl 17 (by decide) fl174 (fun _ h => h) rfl (ty := .int) (by decide +kernel) rfl rfl (Nat.le_of_ble_eq_true rfl) (fs1 := [.int v2, .ref (ad 1), .ref (ad 2), .ref (ad 3), .int v2a, .ref (ad 4), .ref (ad 5), .int v2b, .ref (ad 6), .ref (ad 7), .int v2c, .ref (ad 8), .int v2d, .int v2e, .int v2f, .int v2g, .int v2h, .int v1, .int v2j, .ref (ad 9), .ref (ad 10), .int v2k, .ref (ad 11), .ref (ad 12), .ref (ad 13), .ref (ad 14), .ref (ad 15), .ref (ad 16), .ref (ad 17), .int v2l, .ref (ad 18), .int v2m, .ref (ad 19), .ref (ad 20), .ref (ad 21), .int v2n, .ref (ad 22), .ref (ad 23), .ref (ad 24), .ref (ad 25), .ref (ad 26), .ref (ad 27), .ref (ad 28), .ref (ad 29), .ref (ad 30), .ref (ad 31), .ref (ad 32), .ref (ad 33), .int v2o]) rfl dX8_meets_2 (fun ce H locs e2a h2v hP hS => ?_)
  have hO := z_up (OKK := mK cy ad cnt nd wn S By Ah) 0 hO h2v (by rw [e2a]; exact mE_Mo |>.mpr ⟨v2, v2a, v2b, v2c, v2d, v2e, v2f, v2g, v2h, v1, v2j, v2k, v2l, v2m, v2n, v2o, rfl, h2, h2a, h2b, h2c, h2d, h2e, h2f, h2g, h2h, h2i, h2j, h2k, h2l, h2m, h2n, h2o, h2p, h2q, h2r, h2s, h2t, h2u⟩)
  refine lv_aload_n hx hb dX8_meets_5 rfl (lv_at hl 0 rfl) ?_
  refine lv_aload_n hx hb dX8_meets_6 rfl (lv_at hl 0 rfl) ?_
  refine va_get (ci := 8) (C := RX8) (T := TX8) (N := 49) (v := .int v2h) hx hb hts inX8 hown hK hP 0 (zw_at (by decide) e2a) rfl 16 (by decide) fl171 (fun _ h => h) rfl dX8_meets_7 ?_
  refine z_put (q0 := 0) (ci := 8) (C := RX8) (T := TX8) (N := 49) hx hb hts inX8 tyX8 tyX8_ok nmX8 hown hK hJ hP hS (by decide) e2a rfl 18 (by decide) fl177 (fun _ h => h) rfl (ty := .int) (by decide +kernel) rfl rfl (Nat.le_of_ble_eq_true rfl) (fs1 := [.int v2, .ref (ad 1), .ref (ad 2), .ref (ad 3), .int v2a, .ref (ad 4), .ref (ad 5), .int v2b, .ref (ad 6), .ref (ad 7), .int v2c, .ref (ad 8), .int v2d, .int v2e, .int v2f, .int v2g, .int v2h, .int v1, .int v2h, .ref (ad 9), .ref (ad 10), .int v2k, .ref (ad 11), .ref (ad 12), .ref (ad 13), .ref (ad 14), .ref (ad 15), .ref (ad 16), .ref (ad 17), .int v2l, .ref (ad 18), .int v2m, .ref (ad 19), .ref (ad 20), .ref (ad 21), .int v2n, .ref (ad 22), .ref (ad 23), .ref (ad 24), .ref (ad 25), .ref (ad 26), .ref (ad 27), .ref (ad 28), .ref (ad 29), .ref (ad 30), .ref (ad 31), .ref (ad 32), .ref (ad 33), .int v2o]) rfl dX8_meets_10 (fun ce H locs e10 h10 hP hS => ?_)
  have hO := z_up (OKK := mK cy ad cnt nd wn S By Ah) 0 hO h10 (by rw [e10]; exact mE_Mo |>.mpr ⟨v2, v2a, v2b, v2c, v2d, v2e, v2f, v2g, v2h, v1, v2h, v2k, v2l, v2m, v2n, v2o, rfl, h2, h2a, h2b, h2c, h2d, h2e, h2f, h2g, h2h, h2i, h2j, h2k, h2l, h2m, h2n, h2o, h2p, h2q, h2r, h2s, h2t, h2u⟩)
  refine lv_aload_n hx hb dX8_meets_13 rfl (lv_at hl 0 rfl) ?_
  refine lv_aload_n hx hb dX8_meets_14 rfl (lv_at hl 0 rfl) ?_
  refine va_get (ci := 8) (C := RX8) (T := TX8) (N := 49) (v := .int v2d) hx hb hts inX8 hown hK hP 0 (zw_at (by decide) e10) rfl 12 (by decide) fl155 (fun _ h => h) rfl dX8_meets_15 ?_
  refine lv_aload_n hx hb dX8_meets_18 rfl (lv_at hl 0 rfl) ?_
  refine va_get (ci := 8) (C := RX8) (T := TX8) (N := 49) (v := .int v2f) hx hb hts inX8 hown hK hP 0 (zw_at (by decide) e10) rfl 14 (by decide) fl161 (fun _ h => h) rfl dX8_meets_19 ?_
  refine lv_aload_n hx hb dX8_meets_22 rfl (lv_at hl 1 rfl) ?_
  refine z_ic hx hb dX8_meets_23 (by decide) (fun v23 h23 => ?_)
  refine lv_iload_n hx hb dX8_meets_24 rfl (lv_at hl 2 rfl) ?_
  refine z_mulJ hx hb 5 dX8_meets_25 (by omega) (by omega) (fun v25 h25 => ?_)
  refine z_ic hx hb dX8_meets_26 (by decide) (fun v26 h26 => ?_)
  refine z_addE hx hb dX8_meets_27 (by omega) (fun v27 h27 => ?_)
  obtain ⟨f28, e28⟩ := mg_Rm hO
  refine z_iald hx hb hK hP (q0 := 1) 0 (by decide) e28 rfl (by omega) dX8_meets_28 (fun v28 h28a => ?_)
  refine lv_aload_n hx hb dX8_meets_29 rfl (lv_at hl 1 rfl) ?_
  refine z_ic hx hb dX8_meets_30 (by decide) (fun v30 h30 => ?_)
  refine lv_iload_n hx hb dX8_meets_31 rfl (lv_at hl 2 rfl) ?_
  refine z_mulJ hx hb 5 dX8_meets_32 (by omega) (by omega) (fun v32 h32 => ?_)
  refine z_ic hx hb dX8_meets_33 (by decide) (fun v33 h33 => ?_)
  refine z_addE hx hb dX8_meets_34 (by omega) (fun v34 h34 => ?_)
  refine z_iald hx hb hK hP (q0 := 1) 0 (by decide) e28 rfl (by omega) dX8_meets_35 (fun v35 h35 => ?_)
  refine z_ci (z_rV (q0 := 0) (As := [.int v2d, .int v2f, .int v28, .int v35]) (rest := []) ⟨hx, hb, hml, hown, hts⟩ (c_X8_cuts l D cy ad cnt nd wn S By Ah hJ v2d v2f v28 v35) (cwV 4 hts (g_V mw_353 mw_354 mw_355 mw_324 mw_356) rfl rfl rfl (by decide +kernel) ⟨Nat.le_of_ble_eq_true rfl, Nat.le_of_ble_eq_true rfl⟩) hK hN hO hP (by decide) e10 rfl rfl hl.1 rfl (Nat.le_of_ble_eq_true rfl) dX8_meets_36 ⟨Nat.zero_le _, Nat.zero_le _⟩) hS (fun v36 ce H locs h36 hP hS => ?_)
  obtain ⟨hO, h36a⟩ := h36
  refine z_if_eq (tgt := 86) hx hb dX8_meets_39 (by decide) (fun c39 => ?_) (fun c39 => ?_)
  · skip
    refine z_ic hx hb dX8_meets_86 (by decide) (fun v86 h86 => ?_)
    exact z_retz hx hb hr hlocks hP hS dX8_meets_87 (by omega) ⟨hO, (by omega)⟩
  · skip
    refine lv_aload_n hx hb dX8_meets_42 rfl (lv_at hl 0 rfl) ?_
    refine lv_aload_n hx hb dX8_meets_43 rfl (lv_at hl 0 rfl) ?_
    obtain ⟨v44, v44a, v44b, v44c, v44d, v44e, v44f, v44g, v44h, v44i, v44j, v44k, v44l, v44m, v44n, v44o, e44, h44, h44a, h44b, h44c, h44d, h44e, h44f, h44g, h44h, h44i, h44j, h44k, h44l, h44m, h44n, h44o, h44p, h44q, h44r, h44s, h44t, h44u⟩ := mg_Mo hO
    refine va_get (ci := 8) (C := RX8) (T := TX8) (N := 49) (v := .int v44e) hx hb hts inX8 hown hK hP 0 (zw_at (by decide) e44) rfl 13 (by decide) fl158 (fun _ h => h) rfl dX8_meets_44 ?_
    refine lv_aload_n hx hb dX8_meets_47 rfl (lv_at hl 0 rfl) ?_
    refine va_get (ci := 8) (C := RX8) (T := TX8) (N := 49) (v := .int v44g) hx hb hts inX8 hown hK hP 0 (zw_at (by decide) e44) rfl 15 (by decide) fl164 (fun _ h => h) rfl dX8_meets_48 ?_
    refine lv_aload_n hx hb dX8_meets_51 rfl (lv_at hl 1 rfl) ?_
    refine z_ic hx hb dX8_meets_52 (by decide) (fun v52 h52 => ?_)
    refine lv_iload_n hx hb dX8_meets_53 rfl (lv_at hl 2 rfl) ?_
    refine z_mulJ hx hb 5 dX8_meets_54 (by omega) (by omega) (fun v54 h54 => ?_)
    refine z_ic hx hb dX8_meets_55 (by decide) (fun v55 h55 => ?_)
    refine z_addE hx hb dX8_meets_56 (by omega) (fun v56 h56 => ?_)
    obtain ⟨f57, e57⟩ := mg_Rm hO
    refine z_iald hx hb hK hP (q0 := 1) 0 (by decide) e57 rfl (by omega) dX8_meets_57 (fun v57 h57a => ?_)
    refine lv_aload_n hx hb dX8_meets_58 rfl (lv_at hl 1 rfl) ?_
    refine z_ic hx hb dX8_meets_59 (by decide) (fun v59 h59 => ?_)
    refine lv_iload_n hx hb dX8_meets_60 rfl (lv_at hl 2 rfl) ?_
    refine z_mulJ hx hb 5 dX8_meets_61 (by omega) (by omega) (fun v61 h61 => ?_)
    refine z_ic hx hb dX8_meets_62 (by decide) (fun v62 h62 => ?_)
    refine z_addE hx hb dX8_meets_63 (by omega) (fun v63 h63 => ?_)
    refine z_iald hx hb hK hP (q0 := 1) 0 (by decide) e57 rfl (by omega) dX8_meets_64 (fun v64 h64 => ?_)
    refine z_ci (z_rV (q0 := 0) (As := [.int v44e, .int v44g, .int v57, .int v64]) (rest := []) ⟨hx, hb, hml, hown, hts⟩ (c_X8_cuts l D cy ad cnt nd wn S By Ah hJ v44e v44g v57 v64) (cwV 4 hts (g_V mw_353 mw_354 mw_355 mw_324 mw_356) rfl rfl rfl (by decide +kernel) ⟨Nat.le_of_ble_eq_true rfl, Nat.le_of_ble_eq_true rfl⟩) hK hN hO hP (by decide) e44 rfl rfl hl.1 rfl (Nat.le_of_ble_eq_true rfl) dX8_meets_65 ⟨Nat.zero_le _, Nat.zero_le _⟩) hS (fun v65 ce H locs h65 hP hS => ?_)
    obtain ⟨hO, h65a⟩ := h65
    refine z_if_eq (tgt := 86) hx hb dX8_meets_68 (by decide) (fun c68 => ?_) (fun c68 => ?_)
    · skip
      refine z_ic hx hb dX8_meets_86 (by decide) (fun v86 h86 => ?_)
      exact z_retz hx hb hr hlocks hP hS dX8_meets_87 (by omega) ⟨hO, (by omega)⟩
    · skip
      refine lv_aload_n hx hb dX8_meets_71 rfl (lv_at hl 0 rfl) ?_
      obtain ⟨v72, v72a, v72b, v72c, v72d, v72e, v72f, v72g, v72h, v72i, v72j, v72k, v72l, v72m, v72n, v72o, e72, h72, h72a, h72b, h72c, h72d, h72e, h72f, h72g, h72h, h72i, h72j, h72k, h72l, h72m, h72n, h72o, h72p, h72q, h72r, h72s, h72t, h72u⟩ := mg_Mo hO
      refine va_get (ci := 8) (C := RX8) (T := TX8) (N := 49) (v := .int v72i) hx hb hts inX8 hown hK hP 0 (zw_at (by decide) e72) rfl 17 (by decide) fl174 (fun _ h => h) rfl dX8_meets_72 ?_
      refine lv_aload_n hx hb dX8_meets_75 rfl (lv_at hl 0 rfl) ?_
      refine va_get (ci := 8) (C := RX8) (T := TX8) (N := 49) (v := .int v72j) hx hb hts inX8 hown hK hP 0 (zw_at (by decide) e72) rfl 18 (by decide) fl177 (fun _ h => h) rfl dX8_meets_76 ?_
      refine z_icmp_gt (tgt := 86) hx hb dX8_meets_79 (by decide) (fun c79 => ?_) (fun c79 => ?_)
      · skip
        refine z_ic hx hb dX8_meets_86 (by decide) (fun v86 h86 => ?_)
        exact z_retz hx hb hr hlocks hP hS dX8_meets_87 (by omega) ⟨hO, (by omega)⟩
      · skip
        refine z_ic hx hb dX8_meets_82 (by decide) (fun v82 h82 => ?_)
        refine lv_goto (tgt := 87) hx hb dX8_meets_83 (by decide) ?_
        exact z_retz hx hb hr hlocks hP hS dX8_meets_87 (by omega) ⟨hO, (by omega)⟩
set_option maxHeartbeats 8000000 in
set_option maxRecDepth 100000 in
theorem c_X8_meets_Dr (l : Launch) (D : va_G) (cy : Nat → ClassId) (ad : Nat → Nat) (cnt : Nat → Nat) (nd : Nat) (wn : Nat) (S : Nat → Int32) (By : Nat → Int32) (Ah : Nat → Int32) (hJ : zJ 34 ad) (p2 : Int32) (q_p2 : 0 ≤ p2.toInt ∧ p2.toInt ≤ 5) : zM l D (mT cy) 34 ad (mOK cy ad cnt nd wn S By Ah) yX8_meets vsX8_meets { frames := 2, cells := 0, slots := 0, locals := 47 } ([.ref (ad 0), .ref (ad 4), .int p2] : List Value) (zQi D 34 ad (fun r ce => mOK cy ad cnt nd wn S By Ah ce ∧ (0 ≤ r.toInt ∧ r.toInt ≤ 1))) := by
  refine z_of (cc := cX8_meets) (maxL := 3) (ret := (some .boolean)) (by decide) rfl (Nat.le_of_ble_eq_true rfl) ?_
  intro p e s m below meth c hx hb hr hts hown hlocks hml hK hN ce hOK hP
  have hown : s.vm.findClass RX8 = some m.cls := hown
  have hS : va_S (zA 34 ad) s.heap s.heap [] := va_S.rf
  have hO := hOK
  have inX8 : ∀ w ∈ u_ws RX8 TX8 49, w ∈ vsX8_meets := fun w h => List.mem_cons_of_mem _ (inlX8 w h)
  have fl155 := hts (.fieldLink RX8 155 "GroundKeeperModel" "lx" "I") (List.mem_cons_of_mem _ mw_329)
  have fl158 := hts (.fieldLink RX8 158 "GroundKeeperModel" "ly" "I") (List.mem_cons_of_mem _ mw_330)
  have fl161 := hts (.fieldLink RX8 161 "GroundKeeperModel" "dx" "I") (List.mem_cons_of_mem _ mw_331)
  have fl164 := hts (.fieldLink RX8 164 "GroundKeeperModel" "dy" "I") (List.mem_cons_of_mem _ mw_332)
  have fl171 := hts (.fieldLink RX8 171 "GroundKeeperModel" "parts" "I") (List.mem_cons_of_mem _ mw_333)
  have fl174 := hts (.fieldLink RX8 174 "GroundKeeperModel" "from" "I") (List.mem_cons_of_mem _ mw_334)
  have fl177 := hts (.fieldLink RX8 177 "GroundKeeperModel" "to" "I") (List.mem_cons_of_mem _ mw_335)
  intro ls hl
  have hl : lv_has ls 3 [(0, .ref (ad 0)), (1, .ref (ad 4)), (2, .int p2)] := hl
  refine lv_aload_n hx hb dX8_meets_0 rfl (lv_at hl 0 rfl) ?_
  refine z_ic hx hb dX8_meets_1 (by decide) (fun v1 h1 => ?_)
  obtain ⟨v2, v2a, v2b, v2c, v2d, v2e, v2f, v2g, v2h, v2i, v2j, v2k, v2l, v2m, v2n, v2o, e2, h2, h2a, h2b, h2c, h2d, h2e, h2f, h2g, h2h, h2i, h2j, h2k, h2l, h2m, h2n, h2o, h2p, h2q, h2r, h2s, h2t, h2u⟩ := mg_Mo hO
  refine z_put (q0 := 0) (ci := 8) (C := RX8) (T := TX8) (N := 49) hx hb hts inX8 tyX8 tyX8_ok nmX8 hown hK hJ hP hS (by decide) e2 rfl 17 (by decide) fl174 (fun _ h => h) rfl (ty := .int) (by decide +kernel) rfl rfl (Nat.le_of_ble_eq_true rfl) (fs1 := [.int v2, .ref (ad 1), .ref (ad 2), .ref (ad 3), .int v2a, .ref (ad 4), .ref (ad 5), .int v2b, .ref (ad 6), .ref (ad 7), .int v2c, .ref (ad 8), .int v2d, .int v2e, .int v2f, .int v2g, .int v2h, .int v1, .int v2j, .ref (ad 9), .ref (ad 10), .int v2k, .ref (ad 11), .ref (ad 12), .ref (ad 13), .ref (ad 14), .ref (ad 15), .ref (ad 16), .ref (ad 17), .int v2l, .ref (ad 18), .int v2m, .ref (ad 19), .ref (ad 20), .ref (ad 21), .int v2n, .ref (ad 22), .ref (ad 23), .ref (ad 24), .ref (ad 25), .ref (ad 26), .ref (ad 27), .ref (ad 28), .ref (ad 29), .ref (ad 30), .ref (ad 31), .ref (ad 32), .ref (ad 33), .int v2o]) rfl dX8_meets_2 (fun ce H locs e2a h2v hP hS => ?_)
  have hO := z_up (OKK := mK cy ad cnt nd wn S By Ah) 0 hO h2v (by rw [e2a]; exact mE_Mo |>.mpr ⟨v2, v2a, v2b, v2c, v2d, v2e, v2f, v2g, v2h, v1, v2j, v2k, v2l, v2m, v2n, v2o, rfl, h2, h2a, h2b, h2c, h2d, h2e, h2f, h2g, h2h, h2i, h2j, h2k, h2l, h2m, h2n, h2o, h2p, h2q, h2r, h2s, h2t, h2u⟩)
  refine lv_aload_n hx hb dX8_meets_5 rfl (lv_at hl 0 rfl) ?_
  refine lv_aload_n hx hb dX8_meets_6 rfl (lv_at hl 0 rfl) ?_
  refine va_get (ci := 8) (C := RX8) (T := TX8) (N := 49) (v := .int v2h) hx hb hts inX8 hown hK hP 0 (zw_at (by decide) e2a) rfl 16 (by decide) fl171 (fun _ h => h) rfl dX8_meets_7 ?_
  refine z_put (q0 := 0) (ci := 8) (C := RX8) (T := TX8) (N := 49) hx hb hts inX8 tyX8 tyX8_ok nmX8 hown hK hJ hP hS (by decide) e2a rfl 18 (by decide) fl177 (fun _ h => h) rfl (ty := .int) (by decide +kernel) rfl rfl (Nat.le_of_ble_eq_true rfl) (fs1 := [.int v2, .ref (ad 1), .ref (ad 2), .ref (ad 3), .int v2a, .ref (ad 4), .ref (ad 5), .int v2b, .ref (ad 6), .ref (ad 7), .int v2c, .ref (ad 8), .int v2d, .int v2e, .int v2f, .int v2g, .int v2h, .int v1, .int v2h, .ref (ad 9), .ref (ad 10), .int v2k, .ref (ad 11), .ref (ad 12), .ref (ad 13), .ref (ad 14), .ref (ad 15), .ref (ad 16), .ref (ad 17), .int v2l, .ref (ad 18), .int v2m, .ref (ad 19), .ref (ad 20), .ref (ad 21), .int v2n, .ref (ad 22), .ref (ad 23), .ref (ad 24), .ref (ad 25), .ref (ad 26), .ref (ad 27), .ref (ad 28), .ref (ad 29), .ref (ad 30), .ref (ad 31), .ref (ad 32), .ref (ad 33), .int v2o]) rfl dX8_meets_10 (fun ce H locs e10 h10 hP hS => ?_)
  have hO := z_up (OKK := mK cy ad cnt nd wn S By Ah) 0 hO h10 (by rw [e10]; exact mE_Mo |>.mpr ⟨v2, v2a, v2b, v2c, v2d, v2e, v2f, v2g, v2h, v1, v2h, v2k, v2l, v2m, v2n, v2o, rfl, h2, h2a, h2b, h2c, h2d, h2e, h2f, h2g, h2h, h2i, h2j, h2k, h2l, h2m, h2n, h2o, h2p, h2q, h2r, h2s, h2t, h2u⟩)
  refine lv_aload_n hx hb dX8_meets_13 rfl (lv_at hl 0 rfl) ?_
  refine lv_aload_n hx hb dX8_meets_14 rfl (lv_at hl 0 rfl) ?_
  refine va_get (ci := 8) (C := RX8) (T := TX8) (N := 49) (v := .int v2d) hx hb hts inX8 hown hK hP 0 (zw_at (by decide) e10) rfl 12 (by decide) fl155 (fun _ h => h) rfl dX8_meets_15 ?_
  refine lv_aload_n hx hb dX8_meets_18 rfl (lv_at hl 0 rfl) ?_
  refine va_get (ci := 8) (C := RX8) (T := TX8) (N := 49) (v := .int v2f) hx hb hts inX8 hown hK hP 0 (zw_at (by decide) e10) rfl 14 (by decide) fl161 (fun _ h => h) rfl dX8_meets_19 ?_
  refine lv_aload_n hx hb dX8_meets_22 rfl (lv_at hl 1 rfl) ?_
  refine z_ic hx hb dX8_meets_23 (by decide) (fun v23 h23 => ?_)
  refine lv_iload_n hx hb dX8_meets_24 rfl (lv_at hl 2 rfl) ?_
  refine z_mulJ hx hb 5 dX8_meets_25 (by omega) (by omega) (fun v25 h25 => ?_)
  refine z_ic hx hb dX8_meets_26 (by decide) (fun v26 h26 => ?_)
  refine z_addE hx hb dX8_meets_27 (by omega) (fun v27 h27 => ?_)
  obtain ⟨f28, e28⟩ := mg_Dr hO
  refine z_iald hx hb hK hP (q0 := 4) 0 (by decide) e28 rfl (by omega) dX8_meets_28 (fun v28 h28a => ?_)
  refine lv_aload_n hx hb dX8_meets_29 rfl (lv_at hl 1 rfl) ?_
  refine z_ic hx hb dX8_meets_30 (by decide) (fun v30 h30 => ?_)
  refine lv_iload_n hx hb dX8_meets_31 rfl (lv_at hl 2 rfl) ?_
  refine z_mulJ hx hb 5 dX8_meets_32 (by omega) (by omega) (fun v32 h32 => ?_)
  refine z_ic hx hb dX8_meets_33 (by decide) (fun v33 h33 => ?_)
  refine z_addE hx hb dX8_meets_34 (by omega) (fun v34 h34 => ?_)
  refine z_iald hx hb hK hP (q0 := 4) 0 (by decide) e28 rfl (by omega) dX8_meets_35 (fun v35 h35 => ?_)
  refine z_ci (z_rV (q0 := 0) (As := [.int v2d, .int v2f, .int v28, .int v35]) (rest := []) ⟨hx, hb, hml, hown, hts⟩ (c_X8_cuts l D cy ad cnt nd wn S By Ah hJ v2d v2f v28 v35) (cwV 4 hts (g_V mw_353 mw_354 mw_355 mw_324 mw_356) rfl rfl rfl (by decide +kernel) ⟨Nat.le_of_ble_eq_true rfl, Nat.le_of_ble_eq_true rfl⟩) hK hN hO hP (by decide) e10 rfl rfl hl.1 rfl (Nat.le_of_ble_eq_true rfl) dX8_meets_36 ⟨Nat.zero_le _, Nat.zero_le _⟩) hS (fun v36 ce H locs h36 hP hS => ?_)
  obtain ⟨hO, h36a⟩ := h36
  refine z_if_eq (tgt := 86) hx hb dX8_meets_39 (by decide) (fun c39 => ?_) (fun c39 => ?_)
  · skip
    refine z_ic hx hb dX8_meets_86 (by decide) (fun v86 h86 => ?_)
    exact z_retz hx hb hr hlocks hP hS dX8_meets_87 (by omega) ⟨hO, (by omega)⟩
  · skip
    refine lv_aload_n hx hb dX8_meets_42 rfl (lv_at hl 0 rfl) ?_
    refine lv_aload_n hx hb dX8_meets_43 rfl (lv_at hl 0 rfl) ?_
    obtain ⟨v44, v44a, v44b, v44c, v44d, v44e, v44f, v44g, v44h, v44i, v44j, v44k, v44l, v44m, v44n, v44o, e44, h44, h44a, h44b, h44c, h44d, h44e, h44f, h44g, h44h, h44i, h44j, h44k, h44l, h44m, h44n, h44o, h44p, h44q, h44r, h44s, h44t, h44u⟩ := mg_Mo hO
    refine va_get (ci := 8) (C := RX8) (T := TX8) (N := 49) (v := .int v44e) hx hb hts inX8 hown hK hP 0 (zw_at (by decide) e44) rfl 13 (by decide) fl158 (fun _ h => h) rfl dX8_meets_44 ?_
    refine lv_aload_n hx hb dX8_meets_47 rfl (lv_at hl 0 rfl) ?_
    refine va_get (ci := 8) (C := RX8) (T := TX8) (N := 49) (v := .int v44g) hx hb hts inX8 hown hK hP 0 (zw_at (by decide) e44) rfl 15 (by decide) fl164 (fun _ h => h) rfl dX8_meets_48 ?_
    refine lv_aload_n hx hb dX8_meets_51 rfl (lv_at hl 1 rfl) ?_
    refine z_ic hx hb dX8_meets_52 (by decide) (fun v52 h52 => ?_)
    refine lv_iload_n hx hb dX8_meets_53 rfl (lv_at hl 2 rfl) ?_
    refine z_mulJ hx hb 5 dX8_meets_54 (by omega) (by omega) (fun v54 h54 => ?_)
    refine z_ic hx hb dX8_meets_55 (by decide) (fun v55 h55 => ?_)
    refine z_addE hx hb dX8_meets_56 (by omega) (fun v56 h56 => ?_)
    obtain ⟨f57, e57⟩ := mg_Dr hO
    refine z_iald hx hb hK hP (q0 := 4) 0 (by decide) e57 rfl (by omega) dX8_meets_57 (fun v57 h57a => ?_)
    refine lv_aload_n hx hb dX8_meets_58 rfl (lv_at hl 1 rfl) ?_
    refine z_ic hx hb dX8_meets_59 (by decide) (fun v59 h59 => ?_)
    refine lv_iload_n hx hb dX8_meets_60 rfl (lv_at hl 2 rfl) ?_
    refine z_mulJ hx hb 5 dX8_meets_61 (by omega) (by omega) (fun v61 h61 => ?_)
    refine z_ic hx hb dX8_meets_62 (by decide) (fun v62 h62 => ?_)
    refine z_addE hx hb dX8_meets_63 (by omega) (fun v63 h63 => ?_)
    refine z_iald hx hb hK hP (q0 := 4) 0 (by decide) e57 rfl (by omega) dX8_meets_64 (fun v64 h64 => ?_)
    refine z_ci (z_rV (q0 := 0) (As := [.int v44e, .int v44g, .int v57, .int v64]) (rest := []) ⟨hx, hb, hml, hown, hts⟩ (c_X8_cuts l D cy ad cnt nd wn S By Ah hJ v44e v44g v57 v64) (cwV 4 hts (g_V mw_353 mw_354 mw_355 mw_324 mw_356) rfl rfl rfl (by decide +kernel) ⟨Nat.le_of_ble_eq_true rfl, Nat.le_of_ble_eq_true rfl⟩) hK hN hO hP (by decide) e44 rfl rfl hl.1 rfl (Nat.le_of_ble_eq_true rfl) dX8_meets_65 ⟨Nat.zero_le _, Nat.zero_le _⟩) hS (fun v65 ce H locs h65 hP hS => ?_)
    obtain ⟨hO, h65a⟩ := h65
    refine z_if_eq (tgt := 86) hx hb dX8_meets_68 (by decide) (fun c68 => ?_) (fun c68 => ?_)
    · skip
      refine z_ic hx hb dX8_meets_86 (by decide) (fun v86 h86 => ?_)
      exact z_retz hx hb hr hlocks hP hS dX8_meets_87 (by omega) ⟨hO, (by omega)⟩
    · skip
      refine lv_aload_n hx hb dX8_meets_71 rfl (lv_at hl 0 rfl) ?_
      obtain ⟨v72, v72a, v72b, v72c, v72d, v72e, v72f, v72g, v72h, v72i, v72j, v72k, v72l, v72m, v72n, v72o, e72, h72, h72a, h72b, h72c, h72d, h72e, h72f, h72g, h72h, h72i, h72j, h72k, h72l, h72m, h72n, h72o, h72p, h72q, h72r, h72s, h72t, h72u⟩ := mg_Mo hO
      refine va_get (ci := 8) (C := RX8) (T := TX8) (N := 49) (v := .int v72i) hx hb hts inX8 hown hK hP 0 (zw_at (by decide) e72) rfl 17 (by decide) fl174 (fun _ h => h) rfl dX8_meets_72 ?_
      refine lv_aload_n hx hb dX8_meets_75 rfl (lv_at hl 0 rfl) ?_
      refine va_get (ci := 8) (C := RX8) (T := TX8) (N := 49) (v := .int v72j) hx hb hts inX8 hown hK hP 0 (zw_at (by decide) e72) rfl 18 (by decide) fl177 (fun _ h => h) rfl dX8_meets_76 ?_
      refine z_icmp_gt (tgt := 86) hx hb dX8_meets_79 (by decide) (fun c79 => ?_) (fun c79 => ?_)
      · skip
        refine z_ic hx hb dX8_meets_86 (by decide) (fun v86 h86 => ?_)
        exact z_retz hx hb hr hlocks hP hS dX8_meets_87 (by omega) ⟨hO, (by omega)⟩
      · skip
        refine z_ic hx hb dX8_meets_82 (by decide) (fun v82 h82 => ?_)
        refine lv_goto (tgt := 87) hx hb dX8_meets_83 (by decide) ?_
        exact z_retz hx hb hr hlocks hP hS dX8_meets_87 (by omega) ⟨hO, (by omega)⟩
set_option maxHeartbeats 8000000 in
set_option maxRecDepth 100000 in
theorem c_X8_enters (l : Launch) (D : va_G) (cy : Nat → ClassId) (ad : Nat → Nat) (cnt : Nat → Nat) (nd : Nat) (wn : Nat) (S : Nat → Int32) (By : Nat → Int32) (Ah : Nat → Int32) (hJ : zJ 34 ad) (p1 : Int32) (q_p1 : 0 ≤ p1.toInt ∧ p1.toInt ≤ 7) : zM l D (mT cy) 34 ad (mOK cy ad cnt nd wn S By Ah) yX8_enters vsX8_enters { frames := 2, cells := 0, slots := 0, locals := 47 } ([.ref (ad 0), .int p1] : List Value) (zQi D 34 ad (fun r ce => mOK cy ad cnt nd wn S By Ah ce ∧ (0 ≤ r.toInt ∧ r.toInt ≤ 1))) := by
  refine z_of (cc := cX8_enters) (maxL := 6) (ret := (some .boolean)) (by decide) rfl (Nat.le_of_ble_eq_true rfl) ?_
  intro p e s m below meth c hx hb hr hts hown hlocks hml hK hN ce hOK hP
  have hown : s.vm.findClass RX8 = some m.cls := hown
  have hS : va_S (zA 34 ad) s.heap s.heap [] := va_S.rf
  have hO := hOK
  have inX8 : ∀ w ∈ u_ws RX8 TX8 49, w ∈ vsX8_enters := fun w h => List.mem_cons_of_mem _ (inlX8 w h)
  have fl17 := hts (.fieldLink RX8 17 "GroundKeeperModel" "box" "[I") (List.mem_cons_of_mem _ mw_336)
  have fl155 := hts (.fieldLink RX8 155 "GroundKeeperModel" "lx" "I") (List.mem_cons_of_mem _ mw_329)
  have fl158 := hts (.fieldLink RX8 158 "GroundKeeperModel" "ly" "I") (List.mem_cons_of_mem _ mw_330)
  have fl161 := hts (.fieldLink RX8 161 "GroundKeeperModel" "dx" "I") (List.mem_cons_of_mem _ mw_331)
  have fl164 := hts (.fieldLink RX8 164 "GroundKeeperModel" "dy" "I") (List.mem_cons_of_mem _ mw_332)
  have fl171 := hts (.fieldLink RX8 171 "GroundKeeperModel" "parts" "I") (List.mem_cons_of_mem _ mw_333)
  have fl174 := hts (.fieldLink RX8 174 "GroundKeeperModel" "from" "I") (List.mem_cons_of_mem _ mw_334)
  have fl177 := hts (.fieldLink RX8 177 "GroundKeeperModel" "to" "I") (List.mem_cons_of_mem _ mw_335)
  have J112 : ∀ (H : Heap) (locs : List Loc) (ce : Nat → va_E) (x2 : Int32) (x3 : Int32) (x4 : Int32) (x5 : Int32), va_P D vwCl (zw 34 ad ce) H → va_S (zA 34 ad) s.heap H locs → mOK cy ad cnt nd wn S By Ah ce → ∀ ls : Array Slot, lv_has ls 6 [(0, .ref (ad 0)), (2, .int x2), (3, .int x3), (4, .int x4), (5, .int x5)] → W p l e { frames := 2, cells := 0, slots := 0, locals := 47 } s m ([.ref (ad 0), .int p1] : List Value).toArray below meth c H locs 0 0 (MQ below (zQi D 34 ad (fun r ce => mOK cy ad cnt nd wn S By Ah ce ∧ (0 ≤ r.toInt ∧ r.toInt ≤ 1))) ([.ref (ad 0), .int p1] : List Value).toArray s 0 0 (zA 34 ad)) (F0 m 112 ls []) := by
    intro H locs ce x2 x3 x4 x5 hP hS hO ls hl
    refine lv_aload_n hx hb dX8_enters_112 rfl (lv_at hl 0 rfl) ?_
    refine z_ldc (k := -100000000) hx hb hown (hts (.constant RX8 184 (-100000000)) (List.mem_cons_of_mem _ mw_337)) dX8_enters_113 (by decide) (fun v113 h113 => ?_)
    obtain ⟨v115, v115a, v115b, v115c, v115d, v115e, v115f, v115g, v115h, v115i, v115j, v115k, v115l, v115m, v115n, v115o, e115, h115, h115a, h115b, h115c, h115d, h115e, h115f, h115g, h115h, h115i, h115j, h115k, h115l, h115m, h115n, h115o, h115p, h115q, h115r, h115s, h115t, h115u⟩ := mg_Mo hO
    refine z_put (q0 := 0) (ci := 8) (C := RX8) (T := TX8) (N := 49) hx hb hts inX8 tyX8 tyX8_ok nmX8 hown hK hJ hP hS (by decide) e115 rfl 17 (by decide) fl174 (fun _ h => h) rfl (ty := .int) (by decide +kernel) rfl rfl (Nat.le_of_ble_eq_true rfl) (fs1 := [.int v115, .ref (ad 1), .ref (ad 2), .ref (ad 3), .int v115a, .ref (ad 4), .ref (ad 5), .int v115b, .ref (ad 6), .ref (ad 7), .int v115c, .ref (ad 8), .int v115d, .int v115e, .int v115f, .int v115g, .int v115h, .int v113, .int v115j, .ref (ad 9), .ref (ad 10), .int v115k, .ref (ad 11), .ref (ad 12), .ref (ad 13), .ref (ad 14), .ref (ad 15), .ref (ad 16), .ref (ad 17), .int v115l, .ref (ad 18), .int v115m, .ref (ad 19), .ref (ad 20), .ref (ad 21), .int v115n, .ref (ad 22), .ref (ad 23), .ref (ad 24), .ref (ad 25), .ref (ad 26), .ref (ad 27), .ref (ad 28), .ref (ad 29), .ref (ad 30), .ref (ad 31), .ref (ad 32), .ref (ad 33), .int v115o]) rfl dX8_enters_115 (fun ce H locs e115a h115v hP hS => ?_)
    have hO := z_up (OKK := mK cy ad cnt nd wn S By Ah) 0 hO h115v (by rw [e115a]; exact mE_Mo |>.mpr ⟨v115, v115a, v115b, v115c, v115d, v115e, v115f, v115g, v115h, v113, v115j, v115k, v115l, v115m, v115n, v115o, rfl, h115, h115a, h115b, h115c, h115d, h115e, h115f, h115g, h115h, h115i, h115j, h115k, h115l, h115m, h115n, h115o, h115p, h115q, h115r, h115s, h115t, h115u⟩)
    refine lv_aload_n hx hb dX8_enters_118 rfl (lv_at hl 0 rfl) ?_
    refine z_ldc (k := 100000000) hx hb hown (hts (.constant RX8 185 (100000000)) (List.mem_cons_of_mem _ mw_338)) dX8_enters_119 (by decide) (fun v119 h119 => ?_)
    refine z_put (q0 := 0) (ci := 8) (C := RX8) (T := TX8) (N := 49) hx hb hts inX8 tyX8 tyX8_ok nmX8 hown hK hJ hP hS (by decide) e115a rfl 18 (by decide) fl177 (fun _ h => h) rfl (ty := .int) (by decide +kernel) rfl rfl (Nat.le_of_ble_eq_true rfl) (fs1 := [.int v115, .ref (ad 1), .ref (ad 2), .ref (ad 3), .int v115a, .ref (ad 4), .ref (ad 5), .int v115b, .ref (ad 6), .ref (ad 7), .int v115c, .ref (ad 8), .int v115d, .int v115e, .int v115f, .int v115g, .int v115h, .int v113, .int v119, .ref (ad 9), .ref (ad 10), .int v115k, .ref (ad 11), .ref (ad 12), .ref (ad 13), .ref (ad 14), .ref (ad 15), .ref (ad 16), .ref (ad 17), .int v115l, .ref (ad 18), .int v115m, .ref (ad 19), .ref (ad 20), .ref (ad 21), .int v115n, .ref (ad 22), .ref (ad 23), .ref (ad 24), .ref (ad 25), .ref (ad 26), .ref (ad 27), .ref (ad 28), .ref (ad 29), .ref (ad 30), .ref (ad 31), .ref (ad 32), .ref (ad 33), .int v115o]) rfl dX8_enters_121 (fun ce H locs e121 h121 hP hS => ?_)
    have hO := z_up (OKK := mK cy ad cnt nd wn S By Ah) 0 hO h121 (by rw [e121]; exact mE_Mo |>.mpr ⟨v115, v115a, v115b, v115c, v115d, v115e, v115f, v115g, v115h, v113, v119, v115k, v115l, v115m, v115n, v115o, rfl, h115, h115a, h115b, h115c, h115d, h115e, h115f, h115g, h115h, h115i, h115j, h115k, h115l, h115m, h115n, h115o, h115p, h115q, h115r, h115s, h115t, h115u⟩)
    refine lv_aload_n hx hb dX8_enters_124 rfl (lv_at hl 0 rfl) ?_
    refine lv_aload_n hx hb dX8_enters_125 rfl (lv_at hl 0 rfl) ?_
    refine va_get (ci := 8) (C := RX8) (T := TX8) (N := 49) (v := .int v115d) hx hb hts inX8 hown hK hP 0 (zw_at (by decide) e121) rfl 12 (by decide) fl155 (fun _ h => h) rfl dX8_enters_126 ?_
    refine lv_aload_n hx hb dX8_enters_129 rfl (lv_at hl 0 rfl) ?_
    refine va_get (ci := 8) (C := RX8) (T := TX8) (N := 49) (v := .int v115f) hx hb hts inX8 hown hK hP 0 (zw_at (by decide) e121) rfl 14 (by decide) fl161 (fun _ h => h) rfl dX8_enters_130 ?_
    refine lv_iload_n hx hb dX8_enters_133 rfl (lv_at hl 1 rfl) ?_
    refine lv_iload hx hb dX8_enters_134 (lv_at hl 3 rfl) ?_
    refine z_ci (z_rV (q0 := 0) (As := [.int v115d, .int v115f, .int x2, .int x4]) (rest := []) ⟨hx, hb, hml, hown, hts⟩ (c_X8_cuts l D cy ad cnt nd wn S By Ah hJ v115d v115f x2 x4) (cwV 4 hts (g_V mw_353 mw_354 mw_355 mw_324 mw_356) rfl rfl rfl (by decide +kernel) ⟨Nat.le_of_ble_eq_true rfl, Nat.le_of_ble_eq_true rfl⟩) hK hN hO hP (by decide) e121 rfl rfl hl.1 rfl (Nat.le_of_ble_eq_true rfl) dX8_enters_136 ⟨Nat.zero_le _, Nat.zero_le _⟩) hS (fun v136 ce H locs h136 hP hS => ?_)
    obtain ⟨hO, h136a⟩ := h136
    refine lv_pop hx hb dX8_enters_139 rfl ?_
    refine lv_aload_n hx hb dX8_enters_140 rfl (lv_at hl 0 rfl) ?_
    refine lv_aload_n hx hb dX8_enters_141 rfl (lv_at hl 0 rfl) ?_
    obtain ⟨v142, v142a, v142b, v142c, v142d, v142e, v142f, v142g, v142h, v142i, v142j, v142k, v142l, v142m, v142n, v142o, e142, h142, h142a, h142b, h142c, h142d, h142e, h142f, h142g, h142h, h142i, h142j, h142k, h142l, h142m, h142n, h142o, h142p, h142q, h142r, h142s, h142t, h142u⟩ := mg_Mo hO
    refine va_get (ci := 8) (C := RX8) (T := TX8) (N := 49) (v := .int v142e) hx hb hts inX8 hown hK hP 0 (zw_at (by decide) e142) rfl 13 (by decide) fl158 (fun _ h => h) rfl dX8_enters_142 ?_
    refine lv_aload_n hx hb dX8_enters_145 rfl (lv_at hl 0 rfl) ?_
    refine va_get (ci := 8) (C := RX8) (T := TX8) (N := 49) (v := .int v142g) hx hb hts inX8 hown hK hP 0 (zw_at (by decide) e142) rfl 15 (by decide) fl164 (fun _ h => h) rfl dX8_enters_146 ?_
    refine lv_iload_n hx hb dX8_enters_149 rfl (lv_at hl 2 rfl) ?_
    refine lv_iload hx hb dX8_enters_150 (lv_at hl 4 rfl) ?_
    refine z_ci (z_rV (q0 := 0) (As := [.int v142e, .int v142g, .int x3, .int x5]) (rest := []) ⟨hx, hb, hml, hown, hts⟩ (c_X8_cuts l D cy ad cnt nd wn S By Ah hJ v142e v142g x3 x5) (cwV 4 hts (g_V mw_353 mw_354 mw_355 mw_324 mw_356) rfl rfl rfl (by decide +kernel) ⟨Nat.le_of_ble_eq_true rfl, Nat.le_of_ble_eq_true rfl⟩) hK hN hO hP (by decide) e142 rfl rfl hl.1 rfl (Nat.le_of_ble_eq_true rfl) dX8_enters_152 ⟨Nat.zero_le _, Nat.zero_le _⟩) hS (fun v152 ce H locs h152 hP hS => ?_)
    obtain ⟨hO, h152a⟩ := h152
    refine lv_pop hx hb dX8_enters_155 rfl ?_
    refine lv_aload_n hx hb dX8_enters_156 rfl (lv_at hl 0 rfl) ?_
    obtain ⟨v157, v157a, v157b, v157c, v157d, v157e, v157f, v157g, v157h, v157i, v157j, v157k, v157l, v157m, v157n, v157o, e157, h157, h157a, h157b, h157c, h157d, h157e, h157f, h157g, h157h, h157i, h157j, h157k, h157l, h157m, h157n, h157o, h157p, h157q, h157r, h157s, h157t, h157u⟩ := mg_Mo hO
    refine va_get (ci := 8) (C := RX8) (T := TX8) (N := 49) (v := .int v157i) hx hb hts inX8 hown hK hP 0 (zw_at (by decide) e157) rfl 17 (by decide) fl174 (fun _ h => h) rfl dX8_enters_157 ?_
    refine lv_aload_n hx hb dX8_enters_160 rfl (lv_at hl 0 rfl) ?_
    refine va_get (ci := 8) (C := RX8) (T := TX8) (N := 49) (v := .int v157j) hx hb hts inX8 hown hK hP 0 (zw_at (by decide) e157) rfl 18 (by decide) fl177 (fun _ h => h) rfl dX8_enters_161 ?_
    refine z_icmp_ge (tgt := 189) hx hb dX8_enters_164 (by decide) (fun c164 => ?_) (fun c164 => ?_)
    · skip
      refine z_ic hx hb dX8_enters_189 (by decide) (fun v189 h189 => ?_)
      exact z_retz hx hb hr hlocks hP hS dX8_enters_190 (by omega) ⟨hO, (by omega)⟩
    · skip
      refine lv_aload_n hx hb dX8_enters_167 rfl (lv_at hl 0 rfl) ?_
      refine va_get (ci := 8) (C := RX8) (T := TX8) (N := 49) (v := .int v157i) hx hb hts inX8 hown hK hP 0 (zw_at (by decide) e157) rfl 17 (by decide) fl174 (fun _ h => h) rfl dX8_enters_168 ?_
      refine lv_aload_n hx hb dX8_enters_171 rfl (lv_at hl 0 rfl) ?_
      refine va_get (ci := 8) (C := RX8) (T := TX8) (N := 49) (v := .int v157h) hx hb hts inX8 hown hK hP 0 (zw_at (by decide) e157) rfl 16 (by decide) fl171 (fun _ h => h) rfl dX8_enters_172 ?_
      refine z_icmp_ge (tgt := 189) hx hb dX8_enters_175 (by decide) (fun c175 => ?_) (fun c175 => ?_)
      · skip
        refine z_ic hx hb dX8_enters_189 (by decide) (fun v189 h189 => ?_)
        exact z_retz hx hb hr hlocks hP hS dX8_enters_190 (by omega) ⟨hO, (by omega)⟩
      · skip
        refine lv_aload_n hx hb dX8_enters_178 rfl (lv_at hl 0 rfl) ?_
        refine va_get (ci := 8) (C := RX8) (T := TX8) (N := 49) (v := .int v157j) hx hb hts inX8 hown hK hP 0 (zw_at (by decide) e157) rfl 18 (by decide) fl177 (fun _ h => h) rfl dX8_enters_179 ?_
        refine z_if_le (tgt := 189) hx hb dX8_enters_182 (by decide) (fun c182 => ?_) (fun c182 => ?_)
        · skip
          refine z_ic hx hb dX8_enters_189 (by decide) (fun v189 h189 => ?_)
          exact z_retz hx hb hr hlocks hP hS dX8_enters_190 (by omega) ⟨hO, (by omega)⟩
        · skip
          refine z_ic hx hb dX8_enters_185 (by decide) (fun v185 h185 => ?_)
          refine lv_goto (tgt := 190) hx hb dX8_enters_186 (by decide) ?_
          exact z_retz hx hb hr hlocks hP hS dX8_enters_190 (by omega) ⟨hO, (by omega)⟩
  have J96 : ∀ (H : Heap) (locs : List Loc) (ce : Nat → va_E) (x2 : Int32) (x3 : Int32) (x4 : Int32) (x5 : Int32), va_P D vwCl (zw 34 ad ce) H → va_S (zA 34 ad) s.heap H locs → mOK cy ad cnt nd wn S By Ah ce → ∀ ls : Array Slot, lv_has ls 6 [(0, .ref (ad 0)), (2, .int x2), (3, .int x3), (4, .int x4), (5, .int x5)] → W p l e { frames := 2, cells := 0, slots := 0, locals := 47 } s m ([.ref (ad 0), .int p1] : List Value).toArray below meth c H locs 0 0 (MQ below (zQi D 34 ad (fun r ce => mOK cy ad cnt nd wn S By Ah ce ∧ (0 ≤ r.toInt ∧ r.toInt ≤ 1))) ([.ref (ad 0), .int p1] : List Value).toArray s 0 0 (zA 34 ad)) (F0 m 96 ls []) := by
    intro H locs ce x2 x3 x4 x5 hP hS hO ls hl
    refine lv_aload_n hx hb dX8_enters_96 rfl (lv_at hl 0 rfl) ?_
    obtain ⟨v97, v97a, v97b, v97c, v97d, v97e, v97f, v97g, v97h, v97i, v97j, v97k, v97l, v97m, v97n, v97o, e97, h97, h97a, h97b, h97c, h97d, h97e, h97f, h97g, h97h, h97i, h97j, h97k, h97l, h97m, h97n, h97o, h97p, h97q, h97r, h97s, h97t, h97u⟩ := mg_Mo hO
    refine va_get (ci := 8) (C := RX8) (T := TX8) (N := 49) (v := .int v97f) hx hb hts inX8 hown hK hP 0 (zw_at (by decide) e97) rfl 14 (by decide) fl161 (fun _ h => h) rfl dX8_enters_97 ?_
    refine z_if_ne (tgt := 112) hx hb dX8_enters_100 (by decide) (fun c100 => ?_) (fun c100 => ?_)
    · skip
      exact J112 _ _ _ x2 x3 x4 x5 hP hS hO _ (lv_sub hl [0, 1, 2, 3, 4] rfl)
    · skip
      refine lv_aload_n hx hb dX8_enters_103 rfl (lv_at hl 0 rfl) ?_
      refine va_get (ci := 8) (C := RX8) (T := TX8) (N := 49) (v := .int v97g) hx hb hts inX8 hown hK hP 0 (zw_at (by decide) e97) rfl 15 (by decide) fl164 (fun _ h => h) rfl dX8_enters_104 ?_
      refine z_if_ne (tgt := 112) hx hb dX8_enters_107 (by decide) (fun c107 => ?_) (fun c107 => ?_)
      · skip
        exact J112 _ _ _ x2 x3 x4 x5 hP hS hO _ (lv_sub hl [0, 1, 2, 3, 4] rfl)
      · skip
        refine z_ic hx hb dX8_enters_110 (by decide) (fun v110 h110 => ?_)
        exact z_retz hx hb hr hlocks hP hS dX8_enters_111 (by omega) ⟨hO, (by omega)⟩
  have J70 : ∀ (H : Heap) (locs : List Loc) (ce : Nat → va_E) (x2 : Int32) (x3 : Int32) (x4 : Int32) (x5 : Int32), va_P D vwCl (zw 34 ad ce) H → va_S (zA 34 ad) s.heap H locs → mOK cy ad cnt nd wn S By Ah ce → ∀ ls : Array Slot, lv_has ls 6 [(0, .ref (ad 0)), (2, .int x2), (3, .int x3), (4, .int x4), (5, .int x5)] → W p l e { frames := 2, cells := 0, slots := 0, locals := 47 } s m ([.ref (ad 0), .int p1] : List Value).toArray below meth c H locs 0 0 (MQ below (zQi D 34 ad (fun r ce => mOK cy ad cnt nd wn S By Ah ce ∧ (0 ≤ r.toInt ∧ r.toInt ≤ 1))) ([.ref (ad 0), .int p1] : List Value).toArray s 0 0 (zA 34 ad)) (F0 m 70 ls []) := by
    intro H locs ce x2 x3 x4 x5 hP hS hO ls hl
    refine lv_aload_n hx hb dX8_enters_70 rfl (lv_at hl 0 rfl) ?_
    obtain ⟨v71, v71a, v71b, v71c, v71d, v71e, v71f, v71g, v71h, v71i, v71j, v71k, v71l, v71m, v71n, v71o, e71, h71, h71a, h71b, h71c, h71d, h71e, h71f, h71g, h71h, h71i, h71j, h71k, h71l, h71m, h71n, h71o, h71p, h71q, h71r, h71s, h71t, h71u⟩ := mg_Mo hO
    refine va_get (ci := 8) (C := RX8) (T := TX8) (N := 49) (v := .int v71g) hx hb hts inX8 hown hK hP 0 (zw_at (by decide) e71) rfl 15 (by decide) fl164 (fun _ h => h) rfl dX8_enters_71 ?_
    refine z_if_ne (tgt := 96) hx hb dX8_enters_74 (by decide) (fun c74 => ?_) (fun c74 => ?_)
    · skip
      exact J96 _ _ _ x2 x3 x4 x5 hP hS hO _ (lv_sub hl [0, 1, 2, 3, 4] rfl)
    · skip
      refine lv_aload_n hx hb dX8_enters_77 rfl (lv_at hl 0 rfl) ?_
      refine va_get (ci := 8) (C := RX8) (T := TX8) (N := 49) (v := .int v71e) hx hb hts inX8 hown hK hP 0 (zw_at (by decide) e71) rfl 13 (by decide) fl158 (fun _ h => h) rfl dX8_enters_78 ?_
      refine lv_iload_n hx hb dX8_enters_81 rfl (lv_at hl 2 rfl) ?_
      refine z_icmp_le (tgt := 94) hx hb dX8_enters_82 (by decide) (fun c82 => ?_) (fun c82 => ?_)
      · skip
        refine z_ic hx hb dX8_enters_94 (by decide) (fun v94 h94 => ?_)
        exact z_retz hx hb hr hlocks hP hS dX8_enters_95 (by omega) ⟨hO, (by omega)⟩
      · skip
        refine lv_aload_n hx hb dX8_enters_85 rfl (lv_at hl 0 rfl) ?_
        refine va_get (ci := 8) (C := RX8) (T := TX8) (N := 49) (v := .int v71e) hx hb hts inX8 hown hK hP 0 (zw_at (by decide) e71) rfl 13 (by decide) fl158 (fun _ h => h) rfl dX8_enters_86 ?_
        refine lv_iload hx hb dX8_enters_89 (lv_at hl 4 rfl) ?_
        refine z_icmp_lt (tgt := 96) hx hb dX8_enters_91 (by decide) (fun c91 => ?_) (fun c91 => ?_)
        · skip
          exact J96 _ _ _ x2 x3 x4 x5 hP hS hO _ (lv_sub hl [0, 1, 2, 3, 4] rfl)
        · skip
          refine z_ic hx hb dX8_enters_94 (by decide) (fun v94 h94 => ?_)
          exact z_retz hx hb hr hlocks hP hS dX8_enters_95 (by omega) ⟨hO, (by omega)⟩
  intro ls hl
  have hl : lv_has ls 6 [(0, .ref (ad 0)), (1, .int p1)] := hl
  refine lv_aload_n hx hb dX8_enters_0 rfl (lv_at hl 0 rfl) ?_
  obtain ⟨v1, v1a, v1b, v1c, v1d, v1e, v1f, v1g, v1h, v1i, v1j, v1k, v1l, v1m, v1n, v1o, e1, h1, h1a, h1b, h1c, h1d, h1e, h1f, h1g, h1h, h1i, h1j, h1k, h1l, h1m, h1n, h1o, h1p, h1q, h1r, h1s, h1t, h1u⟩ := mg_Mo hO
  refine va_get (ci := 8) (C := RX8) (T := TX8) (N := 49) (v := .ref (ad 3)) hx hb hts inX8 hown hK hP 0 (zw_at (by decide) e1) rfl 3 (by decide) fl17 (fun _ h => h) rfl dX8_enters_1 ?_
  refine z_ic hx hb dX8_enters_4 (by decide) (fun v4 h4 => ?_)
  refine lv_iload_n hx hb dX8_enters_5 rfl (lv_at hl 1 rfl) ?_
  refine z_mulJ hx hb 5 dX8_enters_6 (by omega) (by omega) (fun v6 h6 => ?_)
  refine z_ic hx hb dX8_enters_7 (by decide) (fun v7 h7 => ?_)
  refine z_addE hx hb dX8_enters_8 (by omega) (fun v8 h8 => ?_)
  obtain ⟨f9, e9⟩ := mg_Bx hO
  refine z_iald hx hb hK hP (q0 := 3) 0 (by decide) e9 rfl (by omega) dX8_enters_9 (fun v9 h9a => ?_)
  refine lv_istore_n (lv' := [(2, .int v9), (0, .ref (ad 0)), (1, .int p1)]) hx hb dX8_enters_10 rfl hl (by decide) rfl (fun ls hl => ?_)
  refine lv_aload_n hx hb dX8_enters_11 rfl (lv_at hl 1 rfl) ?_
  refine va_get (ci := 8) (C := RX8) (T := TX8) (N := 49) (v := .ref (ad 3)) hx hb hts inX8 hown hK hP 0 (zw_at (by decide) e1) rfl 3 (by decide) fl17 (fun _ h => h) rfl dX8_enters_12 ?_
  refine z_ic hx hb dX8_enters_15 (by decide) (fun v15 h15 => ?_)
  refine lv_iload_n hx hb dX8_enters_16 rfl (lv_at hl 2 rfl) ?_
  refine z_mulJ hx hb 5 dX8_enters_17 (by omega) (by omega) (fun v17 h17 => ?_)
  refine z_ic hx hb dX8_enters_18 (by decide) (fun v18 h18 => ?_)
  refine z_addE hx hb dX8_enters_19 (by omega) (fun v19 h19 => ?_)
  refine z_iald hx hb hK hP (q0 := 3) 0 (by decide) e9 rfl (by omega) dX8_enters_20 (fun v20 h20 => ?_)
  refine lv_istore_n (lv' := [(3, .int v20), (2, .int v9), (0, .ref (ad 0)), (1, .int p1)]) hx hb dX8_enters_21 rfl hl (by decide) rfl (fun ls hl => ?_)
  refine lv_aload_n hx hb dX8_enters_22 rfl (lv_at hl 2 rfl) ?_
  refine va_get (ci := 8) (C := RX8) (T := TX8) (N := 49) (v := .ref (ad 3)) hx hb hts inX8 hown hK hP 0 (zw_at (by decide) e1) rfl 3 (by decide) fl17 (fun _ h => h) rfl dX8_enters_23 ?_
  refine z_ic hx hb dX8_enters_26 (by decide) (fun v26 h26 => ?_)
  refine lv_iload_n hx hb dX8_enters_27 rfl (lv_at hl 3 rfl) ?_
  refine z_mulJ hx hb 5 dX8_enters_28 (by omega) (by omega) (fun v28 h28 => ?_)
  refine z_ic hx hb dX8_enters_29 (by decide) (fun v29 h29 => ?_)
  refine z_addE hx hb dX8_enters_30 (by omega) (fun v30 h30 => ?_)
  refine z_iald hx hb hK hP (q0 := 3) 0 (by decide) e9 rfl (by omega) dX8_enters_31 (fun v31 h31 => ?_)
  refine lv_istore (lv' := [(4, .int v31), (3, .int v20), (2, .int v9), (0, .ref (ad 0)), (1, .int p1)]) hx hb dX8_enters_32 hl (by decide) rfl (fun ls hl => ?_)
  refine lv_aload_n hx hb dX8_enters_34 rfl (lv_at hl 3 rfl) ?_
  refine va_get (ci := 8) (C := RX8) (T := TX8) (N := 49) (v := .ref (ad 3)) hx hb hts inX8 hown hK hP 0 (zw_at (by decide) e1) rfl 3 (by decide) fl17 (fun _ h => h) rfl dX8_enters_35 ?_
  refine z_ic hx hb dX8_enters_38 (by decide) (fun v38 h38 => ?_)
  refine lv_iload_n hx hb dX8_enters_39 rfl (lv_at hl 4 rfl) ?_
  refine z_mulJ hx hb 5 dX8_enters_40 (by omega) (by omega) (fun v40 h40 => ?_)
  refine z_ic hx hb dX8_enters_41 (by decide) (fun v41 h41 => ?_)
  refine z_addE hx hb dX8_enters_42 (by omega) (fun v42 h42 => ?_)
  refine z_iald hx hb hK hP (q0 := 3) 0 (by decide) e9 rfl (by omega) dX8_enters_43 (fun v43 h43 => ?_)
  refine lv_istore (lv' := [(5, .int v43), (4, .int v31), (3, .int v20), (2, .int v9), (0, .ref (ad 0)), (1, .int p1)]) hx hb dX8_enters_44 hl (by decide) rfl (fun ls hl => ?_)
  refine lv_aload_n hx hb dX8_enters_46 rfl (lv_at hl 4 rfl) ?_
  refine va_get (ci := 8) (C := RX8) (T := TX8) (N := 49) (v := .int v1f) hx hb hts inX8 hown hK hP 0 (zw_at (by decide) e1) rfl 14 (by decide) fl161 (fun _ h => h) rfl dX8_enters_47 ?_
  refine z_if_ne (tgt := 70) hx hb dX8_enters_50 (by decide) (fun c50 => ?_) (fun c50 => ?_)
  · skip
    exact J70 _ _ _ v9 v20 v31 v43 hP hS hO _ (lv_sub hl [4, 3, 2, 1, 0] rfl)
  · skip
    refine lv_aload_n hx hb dX8_enters_53 rfl (lv_at hl 4 rfl) ?_
    refine va_get (ci := 8) (C := RX8) (T := TX8) (N := 49) (v := .int v1d) hx hb hts inX8 hown hK hP 0 (zw_at (by decide) e1) rfl 12 (by decide) fl155 (fun _ h => h) rfl dX8_enters_54 ?_
    refine lv_iload_n hx hb dX8_enters_57 rfl (lv_at hl 3 rfl) ?_
    refine z_icmp_le (tgt := 94) hx hb dX8_enters_58 (by decide) (fun c58 => ?_) (fun c58 => ?_)
    · skip
      refine z_ic hx hb dX8_enters_94 (by decide) (fun v94 h94 => ?_)
      exact z_retz hx hb hr hlocks hP hS dX8_enters_95 (by omega) ⟨hO, (by omega)⟩
    · skip
      refine lv_aload_n hx hb dX8_enters_61 rfl (lv_at hl 4 rfl) ?_
      refine va_get (ci := 8) (C := RX8) (T := TX8) (N := 49) (v := .int v1d) hx hb hts inX8 hown hK hP 0 (zw_at (by decide) e1) rfl 12 (by decide) fl155 (fun _ h => h) rfl dX8_enters_62 ?_
      refine lv_iload hx hb dX8_enters_65 (lv_at hl 1 rfl) ?_
      refine z_icmp_ge (tgt := 94) hx hb dX8_enters_67 (by decide) (fun c67 => ?_) (fun c67 => ?_)
      · skip
        refine z_ic hx hb dX8_enters_94 (by decide) (fun v94 h94 => ?_)
        exact z_retz hx hb hr hlocks hP hS dX8_enters_95 (by omega) ⟨hO, (by omega)⟩
      · skip
        exact J70 _ _ _ v9 v20 v31 v43 hP hS hO _ (lv_sub hl [4, 3, 2, 1, 0] rfl)
set_option maxHeartbeats 8000000 in
set_option maxRecDepth 100000 in
theorem c_X8_isAllGround (l : Launch) (D : va_G) (cy : Nat → ClassId) (ad : Nat → Nat) (cnt : Nat → Nat) (nd : Nat) (wn : Nat) (S : Nat → Int32) (By : Nat → Int32) (Ah : Nat → Int32) (hJ : zJ 34 ad) (p1 : Int32) : zM l D (mT cy) 34 ad (mOK cy ad cnt nd wn S By Ah) yX8_isAllGround vsX8_isAllGround { frames := 3, cells := 0, slots := 0, locals := 72 } ([.ref (ad 0), .int p1] : List Value) (zQi D 34 ad (fun r ce => mOK cy ad cnt nd wn S By Ah ce ∧ (0 ≤ r.toInt ∧ r.toInt ≤ 1))) := by
  refine z_of (cc := cX8_isAllGround) (maxL := 8) (ret := (some .boolean)) (by decide) rfl (Nat.le_of_ble_eq_true rfl) ?_
  intro p e s m below meth c hx hb hr hts hown hlocks hml hK hN ce hOK hP
  have hown : s.vm.findClass RX8 = some m.cls := hown
  have hS : va_S (zA 34 ad) s.heap s.heap [] := va_S.rf
  have hO := hOK
  have inX8 : ∀ w ∈ u_ws RX8 TX8 49, w ∈ vsX8_isAllGround := fun w h => List.mem_cons_of_mem _ (inlX8 w h)
  have fl7 := hts (.fieldLink RX8 7 "GroundKeeperModel" "room" "[I") (List.mem_cons_of_mem _ mw_339)
  have fl13 := hts (.fieldLink RX8 13 "GroundKeeperModel" "isDown" "[Z") (List.mem_cons_of_mem _ mw_340)
  have fl17 := hts (.fieldLink RX8 17 "GroundKeeperModel" "box" "[I") (List.mem_cons_of_mem _ mw_336)
  have fl35 := hts (.fieldLink RX8 35 "GroundKeeperModel" "spanFrom" "[I") (List.mem_cons_of_mem _ mw_341)
  have fl38 := hts (.fieldLink RX8 38 "GroundKeeperModel" "spanTo" "[I") (List.mem_cons_of_mem _ mw_342)
  have fl121 := hts (.fieldLink RX8 121 "GroundKeeperModel" "rooms" "I") (List.mem_cons_of_mem _ mw_343)
  have fl161 := hts (.fieldLink RX8 161 "GroundKeeperModel" "dx" "I") (List.mem_cons_of_mem _ mw_331)
  have fl164 := hts (.fieldLink RX8 164 "GroundKeeperModel" "dy" "I") (List.mem_cons_of_mem _ mw_332)
  have fl171 := hts (.fieldLink RX8 171 "GroundKeeperModel" "parts" "I") (List.mem_cons_of_mem _ mw_333)
  have fl174 := hts (.fieldLink RX8 174 "GroundKeeperModel" "from" "I") (List.mem_cons_of_mem _ mw_334)
  have fl177 := hts (.fieldLink RX8 177 "GroundKeeperModel" "to" "I") (List.mem_cons_of_mem _ mw_335)
  have L218 : ∀ N218 : Nat, ∀ (H : Heap) (locs : List Loc) (ce : Nat → va_E) (x1 : Int32) (x6 : Int32) (x7 : Int32), va_P D vwCl (zw 34 ad ce) H → va_S (zA 34 ad) s.heap H locs → mOK cy ad cnt nd wn S By Ah ce → (0 ≤ x6.toInt ∧ x6.toInt ≤ 1) → (0 ≤ x7.toInt ∧ x7.toInt ≤ 8) → (9 - x7.toInt ≤ (N218 : Int)) → ∀ ls : Array Slot, lv_has ls 8 [(0, .ref (ad 0)), (1, .int x1), (6, .int x6), (7, .int x7)] → W p l e { frames := 3, cells := 0, slots := 0, locals := 72 } s m ([.ref (ad 0), .int p1] : List Value).toArray below meth c H locs 0 0 (MQ below (zQi D 34 ad (fun r ce => mOK cy ad cnt nd wn S By Ah ce ∧ (0 ≤ r.toInt ∧ r.toInt ≤ 1))) ([.ref (ad 0), .int p1] : List Value).toArray s 0 0 (zA 34 ad)) (F0 m 218 ls []) := by
    intro N218
    induction N218 with
    | zero =>
      intro H locs ce x1 x6 x7 hP hS hO q_x6 q_x7 hm ls hl
      exfalso; omega
    | succ N218 ih218 =>
      have J267 : ∀ (H : Heap) (locs : List Loc) (ce : Nat → va_E) (x1 : Int32) (x7 : Int32) (s0 : Int32), va_P D vwCl (zw 34 ad ce) H → va_S (zA 34 ad) s.heap H locs → mOK cy ad cnt nd wn S By Ah ce → (0 ≤ x7.toInt ∧ x7.toInt ≤ 7) → (0 ≤ s0.toInt ∧ s0.toInt ≤ 1) → (9 - x7.toInt ≤ (N218 : Int) + 1) → ∀ ls : Array Slot, lv_has ls 8 [(0, .ref (ad 0)), (1, .int x1), (7, .int x7)] → W p l e { frames := 3, cells := 0, slots := 0, locals := 72 } s m ([.ref (ad 0), .int p1] : List Value).toArray below meth c H locs 0 0 (MQ below (zQi D 34 ad (fun r ce => mOK cy ad cnt nd wn S By Ah ce ∧ (0 ≤ r.toInt ∧ r.toInt ≤ 1))) ([.ref (ad 0), .int p1] : List Value).toArray s 0 0 (zA 34 ad)) (F0 m 267 ls [.int s0]) := by
        intro H locs ce x1 x7 s0 hP hS hO q_x7 q_s0 qm218 ls hl
        refine lv_istore (lv' := [(6, .int s0), (0, .ref (ad 0)), (1, .int x1), (7, .int x7)]) hx hb dX8_isAllGround_267 hl (by decide) rfl (fun ls hl => ?_)
        refine z_iinc (lv' := fun w0 => [(7, .int w0), (6, .int s0), (0, .ref (ad 0)), (1, .int x1)]) hx hb dX8_isAllGround_269 hl (k := 3) rfl (by decide) (fun _ => rfl) (by decide) (by omega) (fun v269 ls h269 hl => ?_)
        refine lv_goto (tgt := 218) hx hb dX8_isAllGround_272 (by decide) ?_
        exact ih218 _ _ _ x1 s0 v269 hP hS hO (by omega) (by omega) (by omega) _ (lv_sub hl [2, 3, 1, 0] rfl)
      have J262 : ∀ (H : Heap) (locs : List Loc) (ce : Nat → va_E) (x1 : Int32) (x7 : Int32), va_P D vwCl (zw 34 ad ce) H → va_S (zA 34 ad) s.heap H locs → mOK cy ad cnt nd wn S By Ah ce → (0 ≤ x7.toInt ∧ x7.toInt ≤ 7) → (9 - x7.toInt ≤ (N218 : Int) + 1) → ∀ ls : Array Slot, lv_has ls 8 [(0, .ref (ad 0)), (1, .int x1), (7, .int x7)] → W p l e { frames := 3, cells := 0, slots := 0, locals := 72 } s m ([.ref (ad 0), .int p1] : List Value).toArray below meth c H locs 0 0 (MQ below (zQi D 34 ad (fun r ce => mOK cy ad cnt nd wn S By Ah ce ∧ (0 ≤ r.toInt ∧ r.toInt ≤ 1))) ([.ref (ad 0), .int p1] : List Value).toArray s 0 0 (zA 34 ad)) (F0 m 262 ls []) := by
        intro H locs ce x1 x7 hP hS hO q_x7 qm218 ls hl
        refine z_ic hx hb dX8_isAllGround_262 (by decide) (fun v262 h262 => ?_)
        refine lv_goto (tgt := 267) hx hb dX8_isAllGround_263 (by decide) ?_
        exact J267 _ _ _ x1 x7 v262 hP hS hO (by omega) (by omega) (by omega) _ (lv_sub hl [0, 1, 2] rfl)
      intro H locs ce x1 x6 x7 hP hS hO q_x6 q_x7 hm ls hl
      refine lv_iload hx hb dX8_isAllGround_218 (lv_at hl 3 rfl) ?_
      refine z_bi hx hb dX8_isAllGround_220 (by decide) (fun v220 h220 => ?_)
      refine z_icmp_ge (tgt := 275) hx hb dX8_isAllGround_222 (by decide) (fun c222 => ?_) (fun c222 => ?_)
      · skip
        refine lv_iload hx hb dX8_isAllGround_275 (lv_at hl 2 rfl) ?_
        exact z_retz hx hb hr hlocks hP hS dX8_isAllGround_277 (by omega) ⟨hO, (by omega)⟩
      · skip
        refine lv_iload hx hb dX8_isAllGround_225 (lv_at hl 2 rfl) ?_
        refine z_if_eq (tgt := 275) hx hb dX8_isAllGround_227 (by decide) (fun c227 => ?_) (fun c227 => ?_)
        · skip
          refine lv_iload hx hb dX8_isAllGround_275 (lv_at hl 2 rfl) ?_
          exact z_retz hx hb hr hlocks hP hS dX8_isAllGround_277 (by omega) ⟨hO, (by omega)⟩
        · skip
          refine lv_aload_n hx hb dX8_isAllGround_230 rfl (lv_at hl 0 rfl) ?_
          obtain ⟨v231, v231a, v231b, v231c, v231d, v231e, v231f, v231g, v231h, v231i, v231j, v231k, v231l, v231m, v231n, v231o, e231, h231, h231a, h231b, h231c, h231d, h231e, h231f, h231g, h231h, h231i, h231j, h231k, h231l, h231m, h231n, h231o, h231p, h231q, h231r, h231s, h231t, h231u⟩ := mg_Mo hO
          refine va_get (ci := 8) (C := RX8) (T := TX8) (N := 49) (v := .ref (ad 2)) hx hb hts inX8 hown hK hP 0 (zw_at (by decide) e231) rfl 2 (by decide) fl13 (fun _ h => h) rfl dX8_isAllGround_231 ?_
          refine lv_iload hx hb dX8_isAllGround_234 (lv_at hl 3 rfl) ?_
          obtain ⟨f236, e236⟩ := mg_Dn hO
          refine z_zald hx hb hK hP (q0 := 2) 1 (by decide) e236 rfl (by omega) dX8_isAllGround_236 (fun v236 h236a => ?_)
          refine z_if_eq (tgt := 262) hx hb dX8_isAllGround_237 (by decide) (fun c237 => ?_) (fun c237 => ?_)
          · skip
            exact J262 _ _ _ x1 x7 hP hS hO (by omega) (by omega) _ (lv_sub hl [0, 1, 3] rfl)
          · skip
            refine lv_aload_n hx hb dX8_isAllGround_240 rfl (lv_at hl 0 rfl) ?_
            refine va_get (ci := 8) (C := RX8) (T := TX8) (N := 49) (v := .ref (ad 3)) hx hb hts inX8 hown hK hP 0 (zw_at (by decide) e231) rfl 3 (by decide) fl17 (fun _ h => h) rfl dX8_isAllGround_241 ?_
            refine z_ic hx hb dX8_isAllGround_244 (by decide) (fun v244 h244 => ?_)
            refine lv_iload hx hb dX8_isAllGround_245 (lv_at hl 3 rfl) ?_
            refine z_mulJ hx hb 5 dX8_isAllGround_247 (by omega) (by omega) (fun v247 h247 => ?_)
            obtain ⟨f248, e248⟩ := mg_Bx hO
            refine z_iald hx hb hK hP (q0 := 3) 0 (by decide) e248 rfl (by omega) dX8_isAllGround_248 (fun v248 h248a => ?_)
            refine lv_iload_n hx hb dX8_isAllGround_249 rfl (lv_at hl 1 rfl) ?_
            refine z_icmp_ne (tgt := 262) hx hb dX8_isAllGround_250 (by decide) (fun c250 => ?_) (fun c250 => ?_)
            · skip
              exact J262 _ _ _ x1 x7 hP hS hO (by omega) (by omega) _ (lv_sub hl [0, 1, 3] rfl)
            · skip
              refine lv_aload_n hx hb dX8_isAllGround_253 rfl (lv_at hl 0 rfl) ?_
              refine lv_iload hx hb dX8_isAllGround_254 (lv_at hl 3 rfl) ?_
              refine z_ci (z_rV (q0 := 0) (As := [.int x7]) (rest := []) ⟨hx, hb, hml, hown, hts⟩ (c_X8_enters l D cy ad cnt nd wn S By Ah hJ x7 (by omega)) (cwV 1 hts (g_V mw_357 mw_358 mw_359 mw_324 mw_360) rfl rfl rfl (by decide +kernel) ⟨Nat.le_of_ble_eq_true rfl, Nat.le_of_ble_eq_true rfl⟩) hK hN hO hP (by decide) e231 rfl rfl hl.1 rfl (Nat.le_of_ble_eq_true rfl) dX8_isAllGround_256 ⟨Nat.zero_le _, Nat.zero_le _⟩) hS (fun v256 ce H locs h256 hP hS => ?_)
              obtain ⟨hO, h256a⟩ := h256
              refine z_if_ne (tgt := 266) hx hb dX8_isAllGround_259 (by decide) (fun c259 => ?_) (fun c259 => ?_)
              · skip
                refine z_ic hx hb dX8_isAllGround_266 (by decide) (fun v266 h266 => ?_)
                exact J267 _ _ _ x1 x7 v266 hP hS hO (by omega) (by omega) (by omega) _ (lv_sub hl [0, 1, 3] rfl)
              · skip
                exact J262 _ _ _ x1 x7 hP hS hO (by omega) (by omega) _ (lv_sub hl [0, 1, 3] rfl)
  have J213 : ∀ (H : Heap) (locs : List Loc) (ce : Nat → va_E) (x1 : Int32) (s0 : Int32), va_P D vwCl (zw 34 ad ce) H → va_S (zA 34 ad) s.heap H locs → mOK cy ad cnt nd wn S By Ah ce → (0 ≤ s0.toInt ∧ s0.toInt ≤ 1) → ∀ ls : Array Slot, lv_has ls 8 [(0, .ref (ad 0)), (1, .int x1)] → W p l e { frames := 3, cells := 0, slots := 0, locals := 72 } s m ([.ref (ad 0), .int p1] : List Value).toArray below meth c H locs 0 0 (MQ below (zQi D 34 ad (fun r ce => mOK cy ad cnt nd wn S By Ah ce ∧ (0 ≤ r.toInt ∧ r.toInt ≤ 1))) ([.ref (ad 0), .int p1] : List Value).toArray s 0 0 (zA 34 ad)) (F0 m 213 ls [.int s0]) := by
    intro H locs ce x1 s0 hP hS hO q_s0 ls hl
    refine lv_istore (lv' := [(6, .int s0), (0, .ref (ad 0)), (1, .int x1)]) hx hb dX8_isAllGround_213 hl (by decide) rfl (fun ls hl => ?_)
    refine z_ic hx hb dX8_isAllGround_215 (by decide) (fun v215 h215 => ?_)
    refine lv_istore (lv' := [(7, .int v215), (6, .int s0), (0, .ref (ad 0)), (1, .int x1)]) hx hb dX8_isAllGround_216 hl (by decide) rfl (fun ls hl => ?_)
    exact L218 10 _ _ _ x1 s0 v215 hP hS hO (by omega) (by omega) (by omega) _ (lv_sub hl [2, 3, 1, 0] rfl)
  have J212 : ∀ (H : Heap) (locs : List Loc) (ce : Nat → va_E) (x1 : Int32), va_P D vwCl (zw 34 ad ce) H → va_S (zA 34 ad) s.heap H locs → mOK cy ad cnt nd wn S By Ah ce → ∀ ls : Array Slot, lv_has ls 8 [(0, .ref (ad 0)), (1, .int x1)] → W p l e { frames := 3, cells := 0, slots := 0, locals := 72 } s m ([.ref (ad 0), .int p1] : List Value).toArray below meth c H locs 0 0 (MQ below (zQi D 34 ad (fun r ce => mOK cy ad cnt nd wn S By Ah ce ∧ (0 ≤ r.toInt ∧ r.toInt ≤ 1))) ([.ref (ad 0), .int p1] : List Value).toArray s 0 0 (zA 34 ad)) (F0 m 212 ls []) := by
    intro H locs ce x1 hP hS hO ls hl
    refine z_ic hx hb dX8_isAllGround_212 (by decide) (fun v212 h212 => ?_)
    exact J213 _ _ _ x1 v212 hP hS hO (by omega) _ (lv_sub hl [0, 1] rfl)
  have J205 : ∀ (H : Heap) (locs : List Loc) (ce : Nat → va_E) (x1 : Int32) (s0 : Int32) (s1 : Int32), va_P D vwCl (zw 34 ad ce) H → va_S (zA 34 ad) s.heap H locs → mOK cy ad cnt nd wn S By Ah ce → (-2147483648 ≤ s0.toInt ∧ s0.toInt ≤ 2147483647) → ∀ ls : Array Slot, lv_has ls 8 [(0, .ref (ad 0)), (1, .int x1)] → W p l e { frames := 3, cells := 0, slots := 0, locals := 72 } s m ([.ref (ad 0), .int p1] : List Value).toArray below meth c H locs 0 0 (MQ below (zQi D 34 ad (fun r ce => mOK cy ad cnt nd wn S By Ah ce ∧ (0 ≤ r.toInt ∧ r.toInt ≤ 1))) ([.ref (ad 0), .int p1] : List Value).toArray s 0 0 (zA 34 ad)) (F0 m 205 ls [.int s1, .int s0]) := by
    intro H locs ce x1 s0 s1 hP hS hO q_s0 ls hl
    refine z_icmp_lt (tgt := 212) hx hb dX8_isAllGround_205 (by decide) (fun c205 => ?_) (fun c205 => ?_)
    · skip
      exact J212 _ _ _ x1 hP hS hO _ (lv_sub hl [0, 1] rfl)
    · skip
      refine z_ic hx hb dX8_isAllGround_208 (by decide) (fun v208 h208 => ?_)
      refine lv_goto (tgt := 213) hx hb dX8_isAllGround_209 (by decide) ?_
      exact J213 _ _ _ x1 v208 hP hS hO (by omega) _ (lv_sub hl [0, 1] rfl)
  have J201 : ∀ (H : Heap) (locs : List Loc) (ce : Nat → va_E) (x1 : Int32) (s0 : Int32), va_P D vwCl (zw 34 ad ce) H → va_S (zA 34 ad) s.heap H locs → mOK cy ad cnt nd wn S By Ah ce → (-2147483648 ≤ s0.toInt ∧ s0.toInt ≤ 2147483647) → ∀ ls : Array Slot, lv_has ls 8 [(0, .ref (ad 0)), (1, .int x1)] → W p l e { frames := 3, cells := 0, slots := 0, locals := 72 } s m ([.ref (ad 0), .int p1] : List Value).toArray below meth c H locs 0 0 (MQ below (zQi D 34 ad (fun r ce => mOK cy ad cnt nd wn S By Ah ce ∧ (0 ≤ r.toInt ∧ r.toInt ≤ 1))) ([.ref (ad 0), .int p1] : List Value).toArray s 0 0 (zA 34 ad)) (F0 m 201 ls [.int s0]) := by
    intro H locs ce x1 s0 hP hS hO q_s0 ls hl
    refine lv_aload_n hx hb dX8_isAllGround_201 rfl (lv_at hl 0 rfl) ?_
    obtain ⟨v202, v202a, v202b, v202c, v202d, v202e, v202f, v202g, v202h, v202i, v202j, v202k, v202l, v202m, v202n, v202o, e202, h202, h202a, h202b, h202c, h202d, h202e, h202f, h202g, h202h, h202i, h202j, h202k, h202l, h202m, h202n, h202o, h202p, h202q, h202r, h202s, h202t, h202u⟩ := mg_Mo hO
    refine va_get (ci := 8) (C := RX8) (T := TX8) (N := 49) (v := .int v202h) hx hb hts inX8 hown hK hP 0 (zw_at (by decide) e202) rfl 16 (by decide) fl171 (fun _ h => h) rfl dX8_isAllGround_202 ?_
    exact J205 _ _ _ x1 s0 v202h hP hS hO (by omega) _ (lv_sub hl [0, 1] rfl)
  have L73 : ∀ N73 : Nat, ∀ (H : Heap) (locs : List Loc) (ce : Nat → va_E) (x1 : Int32) (x2 : Int32) (x3 : Int32) (x4 : Int32) (x5 : Int32), va_P D vwCl (zw 34 ad ce) H → va_S (zA 34 ad) s.heap H locs → mOK cy ad cnt nd wn S By Ah ce → (0 ≤ x2.toInt ∧ x2.toInt ≤ 12) → (-2147483648 ≤ x3.toInt ∧ x3.toInt ≤ 2147483647) → (0 ≤ x4.toInt ∧ x4.toInt ≤ 1) → (0 ≤ x5.toInt ∧ x5.toInt ≤ 1) → (2 * (2147483647 - x3.toInt) + x5.toInt + 1 ≤ (N73 : Int)) → ∀ ls : Array Slot, lv_has ls 8 [(0, .ref (ad 0)), (1, .int x1), (2, .int x2), (3, .int x3), (4, .int x4), (5, .int x5)] → W p l e { frames := 3, cells := 0, slots := 0, locals := 72 } s m ([.ref (ad 0), .int p1] : List Value).toArray below meth c H locs 0 0 (MQ below (zQi D 34 ad (fun r ce => mOK cy ad cnt nd wn S By Ah ce ∧ (0 ≤ r.toInt ∧ r.toInt ≤ 1))) ([.ref (ad 0), .int p1] : List Value).toArray s 0 0 (zA 34 ad)) (F0 m 73 ls []) := by
    intro N73
    induction N73 with
    | zero =>
      intro H locs ce x1 x2 x3 x4 x5 hP hS hO q_x2 q_x3 q_x4 q_x5 hm ls hl
      exfalso; omega
    | succ N73 ih73 =>
      have L84 : ∀ N84 : Nat, ∀ (H : Heap) (locs : List Loc) (ce : Nat → va_E) (x1 : Int32) (x2 : Int32) (x3 : Int32) (x4 : Int32) (x5 : Int32) (x6 : Int32), va_P D vwCl (zw 34 ad ce) H → va_S (zA 34 ad) s.heap H locs → mOK cy ad cnt nd wn S By Ah ce → (0 ≤ x2.toInt ∧ x2.toInt ≤ 12) → (-2147483648 ≤ x3.toInt ∧ x3.toInt ≤ 2147483647) → (0 ≤ x4.toInt ∧ x4.toInt ≤ 1) → (0 ≤ x5.toInt ∧ x5.toInt ≤ 1) → (0 ≤ x6.toInt ∧ x6.toInt ≤ 13) → (2 * (2147483647 - x3.toInt) + x5.toInt + 1 ≤ (N73 : Int)) → (14 - x6.toInt ≤ (N84 : Int)) → ∀ ls : Array Slot, lv_has ls 8 [(0, .ref (ad 0)), (1, .int x1), (2, .int x2), (3, .int x3), (4, .int x4), (5, .int x5), (6, .int x6)] → W p l e { frames := 3, cells := 0, slots := 0, locals := 72 } s m ([.ref (ad 0), .int p1] : List Value).toArray below meth c H locs 0 0 (MQ below (zQi D 34 ad (fun r ce => mOK cy ad cnt nd wn S By Ah ce ∧ (0 ≤ r.toInt ∧ r.toInt ≤ 1))) ([.ref (ad 0), .int p1] : List Value).toArray s 0 0 (zA 34 ad)) (F0 m 84 ls []) := by
        intro N84
        induction N84 with
        | zero =>
          intro H locs ce x1 x2 x3 x4 x5 x6 hP hS hO q_x2 q_x3 q_x4 q_x5 q_x6 qm73 hm ls hl
          exfalso; omega
        | succ N84 ih84 =>
          have J168 : ∀ (H : Heap) (locs : List Loc) (ce : Nat → va_E) (x1 : Int32) (x2 : Int32) (x3 : Int32) (x4 : Int32) (x5 : Int32) (x6 : Int32), va_P D vwCl (zw 34 ad ce) H → va_S (zA 34 ad) s.heap H locs → mOK cy ad cnt nd wn S By Ah ce → (1 ≤ x2.toInt ∧ x2.toInt ≤ 12) → (-2147483648 ≤ x3.toInt ∧ x3.toInt ≤ 2147483647) → (0 ≤ x4.toInt ∧ x4.toInt ≤ 1) → (0 ≤ x5.toInt ∧ x5.toInt ≤ 1) → (0 ≤ x6.toInt ∧ x6.toInt ≤ 12) → (2 * (2147483647 - x3.toInt) + x5.toInt + 1 ≤ (N73 : Int)) → (14 - x6.toInt ≤ (N84 : Int) + 1) → ∀ ls : Array Slot, lv_has ls 8 [(0, .ref (ad 0)), (1, .int x1), (2, .int x2), (3, .int x3), (4, .int x4), (5, .int x5), (6, .int x6)] → W p l e { frames := 3, cells := 0, slots := 0, locals := 72 } s m ([.ref (ad 0), .int p1] : List Value).toArray below meth c H locs 0 0 (MQ below (zQi D 34 ad (fun r ce => mOK cy ad cnt nd wn S By Ah ce ∧ (0 ≤ r.toInt ∧ r.toInt ≤ 1))) ([.ref (ad 0), .int p1] : List Value).toArray s 0 0 (zA 34 ad)) (F0 m 168 ls []) := by
            intro H locs ce x1 x2 x3 x4 x5 x6 hP hS hO q_x2 q_x3 q_x4 q_x5 q_x6 qm73 qm84 ls hl
            refine z_iinc (lv' := fun w0 => [(6, .int w0), (0, .ref (ad 0)), (1, .int x1), (2, .int x2), (3, .int x3), (4, .int x4), (5, .int x5)]) hx hb dX8_isAllGround_168 hl (k := 6) rfl (by decide) (fun _ => rfl) (by decide) (by omega) (fun v168 ls h168 hl => ?_)
            refine lv_goto (tgt := 84) hx hb dX8_isAllGround_171 (by decide) ?_
            exact ih84 _ _ _ x1 x2 x3 x4 x5 v168 hP hS hO (by omega) (by omega) (by omega) (by omega) (by omega) (by omega) (by omega) _ (lv_sub hl [1, 2, 3, 4, 5, 6, 0] rfl)
          intro H locs ce x1 x2 x3 x4 x5 x6 hP hS hO q_x2 q_x3 q_x4 q_x5 q_x6 qm73 hm ls hl
          refine lv_iload hx hb dX8_isAllGround_84 (lv_at hl 6 rfl) ?_
          refine lv_iload_n hx hb dX8_isAllGround_86 rfl (lv_at hl 2 rfl) ?_
          refine z_icmp_ge (tgt := 174) hx hb dX8_isAllGround_87 (by decide) (fun c87 => ?_) (fun c87 => ?_)
          · skip
            refine lv_goto (tgt := 73) hx hb dX8_isAllGround_174 (by decide) ?_
            exact ih73 _ _ _ x1 x2 x3 x4 x5 hP hS hO (by omega) (by omega) (by omega) (by omega) (by omega) _ (lv_sub hl [0, 1, 2, 3, 4, 5] rfl)
          · skip
            refine lv_aload_n hx hb dX8_isAllGround_90 rfl (lv_at hl 0 rfl) ?_
            obtain ⟨v91, v91a, v91b, v91c, v91d, v91e, v91f, v91g, v91h, v91i, v91j, v91k, v91l, v91m, v91n, v91o, e91, h91, h91a, h91b, h91c, h91d, h91e, h91f, h91g, h91h, h91i, h91j, h91k, h91l, h91m, h91n, h91o, h91p, h91q, h91r, h91s, h91t, h91u⟩ := mg_Mo hO
            refine va_get (ci := 8) (C := RX8) (T := TX8) (N := 49) (v := .ref (ad 9)) hx hb hts inX8 hown hK hP 0 (zw_at (by decide) e91) rfl 19 (by decide) fl35 (fun _ h => h) rfl dX8_isAllGround_91 ?_
            refine lv_iload hx hb dX8_isAllGround_94 (lv_at hl 6 rfl) ?_
            obtain ⟨f96, e96⟩ := mg_Sf hO
            refine z_iald hx hb hK hP (q0 := 9) 0 (by decide) e96 rfl (by omega) dX8_isAllGround_96 (fun v96 h96a => ?_)
            refine lv_iload_n hx hb dX8_isAllGround_97 rfl (lv_at hl 3 rfl) ?_
            refine z_icmp_gt (tgt := 168) hx hb dX8_isAllGround_98 (by decide) (fun c98 => ?_) (fun c98 => ?_)
            · skip
              exact J168 _ _ _ x1 x2 x3 x4 x5 x6 hP hS hO (by omega) (by omega) (by omega) (by omega) (by omega) (by omega) (by omega) _ (lv_sub hl [0, 1, 2, 3, 4, 5, 6] rfl)
            · skip
              refine lv_aload_n hx hb dX8_isAllGround_101 rfl (lv_at hl 0 rfl) ?_
              refine va_get (ci := 8) (C := RX8) (T := TX8) (N := 49) (v := .ref (ad 10)) hx hb hts inX8 hown hK hP 0 (zw_at (by decide) e91) rfl 20 (by decide) fl38 (fun _ h => h) rfl dX8_isAllGround_102 ?_
              refine lv_iload hx hb dX8_isAllGround_105 (lv_at hl 6 rfl) ?_
              obtain ⟨f107, e107⟩ := mg_Sp hO
              refine z_iald hx hb hK hP (q0 := 10) 0 (by decide) e107 rfl (by omega) dX8_isAllGround_107 (fun v107 h107a => ?_)
              have h107b := z_rng v107
              refine lv_iload_n hx hb dX8_isAllGround_108 rfl (lv_at hl 3 rfl) ?_
              refine z_icmp_gt (tgt := 117) hx hb dX8_isAllGround_109 (by decide) (fun c109 => ?_) (fun c109 => ?_)
              · skip
                refine z_ic hx hb dX8_isAllGround_117 (by decide) (fun v117 h117 => ?_)
                refine lv_istore (lv' := [(4, .int v117), (0, .ref (ad 0)), (1, .int x1), (2, .int x2), (3, .int x3), (5, .int x5), (6, .int x6)]) hx hb dX8_isAllGround_118 hl (by decide) rfl (fun ls hl => ?_)
                refine lv_aload_n hx hb dX8_isAllGround_120 rfl (lv_at hl 1 rfl) ?_
                refine va_get (ci := 8) (C := RX8) (T := TX8) (N := 49) (v := .ref (ad 10)) hx hb hts inX8 hown hK hP 0 (zw_at (by decide) e91) rfl 20 (by decide) fl38 (fun _ h => h) rfl dX8_isAllGround_121 ?_
                refine lv_iload hx hb dX8_isAllGround_124 (lv_at hl 6 rfl) ?_
                refine z_iald hx hb hK hP (q0 := 10) 0 (by decide) e107 rfl (by omega) dX8_isAllGround_126 (fun v126 h126 => ?_)
                have h126a := z_rng v126
                have h126b : v126.toInt = v107.toInt := z_same h126 h107a
                refine lv_iload_n hx hb dX8_isAllGround_127 rfl (lv_at hl 4 rfl) ?_
                refine z_icmp_le (tgt := 135) hx hb dX8_isAllGround_128 (by decide) (fun c128 => ?_) (fun c128 => ?_)
                · skip
                  refine z_ic hx hb dX8_isAllGround_135 (by decide) (fun v135 h135 => ?_)
                  refine lv_istore (lv' := [(5, .int v135), (4, .int v117), (0, .ref (ad 0)), (1, .int x1), (2, .int x2), (3, .int x3), (6, .int x6)]) hx hb dX8_isAllGround_136 hl (by decide) rfl (fun ls hl => ?_)
                  refine lv_iload hx hb dX8_isAllGround_138 (lv_at hl 0 rfl) ?_
                  refine z_if_eq (tgt := 153) hx hb dX8_isAllGround_140 (by decide) (fun c140 => ?_) (fun c140 => ?_)
                  · skip
                    refine lv_iload_n hx hb dX8_isAllGround_153 rfl (lv_at hl 5 rfl) ?_
                    refine lv_istore_n (lv' := [(3, .int x3), (5, .int v135), (4, .int v117), (0, .ref (ad 0)), (1, .int x1), (2, .int x2), (6, .int x6)]) hx hb dX8_isAllGround_154 rfl hl (by decide) rfl (fun ls hl => ?_)
                    refine lv_iload hx hb dX8_isAllGround_155 (lv_at hl 1 rfl) ?_
                    refine z_if_eq (tgt := 164) hx hb dX8_isAllGround_157 (by decide) (fun c157 => ?_) (fun c157 => ?_)
                    · skip
                      refine lv_iload hx hb dX8_isAllGround_164 (lv_at hl 6 rfl) ?_
                      refine lv_istore (lv' := [(6, .int x6), (3, .int x3), (5, .int v135), (4, .int v117), (0, .ref (ad 0)), (1, .int x1), (2, .int x2)]) hx hb dX8_isAllGround_166 hl (by decide) rfl (fun ls hl => ?_)
                      exact J168 _ _ _ x1 x2 x3 v117 v135 x6 hP hS hO (by omega) (by omega) (by omega) (by omega) (by omega) (by omega) (by omega) _ (lv_sub hl [4, 5, 6, 1, 3, 2, 0] rfl)
                    · skip
                      exfalso; omega
                  · skip
                    exfalso; omega
                · skip
                  refine z_ic hx hb dX8_isAllGround_131 (by decide) (fun v131 h131 => ?_)
                  refine lv_goto (tgt := 136) hx hb dX8_isAllGround_132 (by decide) ?_
                  refine lv_istore (lv' := [(5, .int v131), (4, .int v117), (0, .ref (ad 0)), (1, .int x1), (2, .int x2), (3, .int x3), (6, .int x6)]) hx hb dX8_isAllGround_136 hl (by decide) rfl (fun ls hl => ?_)
                  refine lv_iload hx hb dX8_isAllGround_138 (lv_at hl 0 rfl) ?_
                  refine z_if_eq (tgt := 153) hx hb dX8_isAllGround_140 (by decide) (fun c140 => ?_) (fun c140 => ?_)
                  · skip
                    exfalso; omega
                  · skip
                    refine lv_aload_n hx hb dX8_isAllGround_143 rfl (lv_at hl 2 rfl) ?_
                    refine va_get (ci := 8) (C := RX8) (T := TX8) (N := 49) (v := .ref (ad 10)) hx hb hts inX8 hown hK hP 0 (zw_at (by decide) e91) rfl 20 (by decide) fl38 (fun _ h => h) rfl dX8_isAllGround_144 ?_
                    refine lv_iload hx hb dX8_isAllGround_147 (lv_at hl 6 rfl) ?_
                    refine z_iald hx hb hK hP (q0 := 10) 0 (by decide) e107 rfl (by omega) dX8_isAllGround_149 (fun v149 h149 => ?_)
                    have h149a := z_rng v149
                    have h149b : v149.toInt = v107.toInt := z_same h149 h107a
                    refine lv_goto (tgt := 154) hx hb dX8_isAllGround_150 (by decide) ?_
                    refine lv_istore_n (lv' := [(3, .int v149), (5, .int v131), (4, .int v117), (0, .ref (ad 0)), (1, .int x1), (2, .int x2), (6, .int x6)]) hx hb dX8_isAllGround_154 rfl hl (by decide) rfl (fun ls hl => ?_)
                    refine lv_iload hx hb dX8_isAllGround_155 (lv_at hl 1 rfl) ?_
                    refine z_if_eq (tgt := 164) hx hb dX8_isAllGround_157 (by decide) (fun c157 => ?_) (fun c157 => ?_)
                    · skip
                      exfalso; omega
                    · skip
                      refine lv_iload_n hx hb dX8_isAllGround_160 rfl (lv_at hl 5 rfl) ?_
                      refine lv_goto (tgt := 166) hx hb dX8_isAllGround_161 (by decide) ?_
                      refine lv_istore (lv' := [(6, .int x2), (3, .int v149), (5, .int v131), (4, .int v117), (0, .ref (ad 0)), (1, .int x1), (2, .int x2)]) hx hb dX8_isAllGround_166 hl (by decide) rfl (fun ls hl => ?_)
                      exact J168 _ _ _ x1 x2 v149 v117 v131 x2 hP hS hO (by omega) (by omega) (by omega) (by omega) (by omega) (by omega) (by omega) _ (lv_sub hl [4, 5, 6, 1, 3, 2, 0] rfl)
              · skip
                refine lv_iload hx hb dX8_isAllGround_112 (lv_at hl 4 rfl) ?_
                refine z_if_ne (tgt := 168) hx hb dX8_isAllGround_114 (by decide) (fun c114 => ?_) (fun c114 => ?_)
                · skip
                  exact J168 _ _ _ x1 x2 x3 x4 x5 x6 hP hS hO (by omega) (by omega) (by omega) (by omega) (by omega) (by omega) (by omega) _ (lv_sub hl [0, 1, 2, 3, 4, 5, 6] rfl)
                · skip
                  refine z_ic hx hb dX8_isAllGround_117 (by decide) (fun v117 h117 => ?_)
                  refine lv_istore (lv' := [(4, .int v117), (0, .ref (ad 0)), (1, .int x1), (2, .int x2), (3, .int x3), (5, .int x5), (6, .int x6)]) hx hb dX8_isAllGround_118 hl (by decide) rfl (fun ls hl => ?_)
                  refine lv_aload_n hx hb dX8_isAllGround_120 rfl (lv_at hl 1 rfl) ?_
                  refine va_get (ci := 8) (C := RX8) (T := TX8) (N := 49) (v := .ref (ad 10)) hx hb hts inX8 hown hK hP 0 (zw_at (by decide) e91) rfl 20 (by decide) fl38 (fun _ h => h) rfl dX8_isAllGround_121 ?_
                  refine lv_iload hx hb dX8_isAllGround_124 (lv_at hl 6 rfl) ?_
                  refine z_iald hx hb hK hP (q0 := 10) 0 (by decide) e107 rfl (by omega) dX8_isAllGround_126 (fun v126 h126 => ?_)
                  have h126a := z_rng v126
                  have h126b : v126.toInt = v107.toInt := z_same h126 h107a
                  refine lv_iload_n hx hb dX8_isAllGround_127 rfl (lv_at hl 4 rfl) ?_
                  refine z_icmp_le (tgt := 135) hx hb dX8_isAllGround_128 (by decide) (fun c128 => ?_) (fun c128 => ?_)
                  · skip
                    refine z_ic hx hb dX8_isAllGround_135 (by decide) (fun v135 h135 => ?_)
                    refine lv_istore (lv' := [(5, .int v135), (4, .int v117), (0, .ref (ad 0)), (1, .int x1), (2, .int x2), (3, .int x3), (6, .int x6)]) hx hb dX8_isAllGround_136 hl (by decide) rfl (fun ls hl => ?_)
                    refine lv_iload hx hb dX8_isAllGround_138 (lv_at hl 0 rfl) ?_
                    refine z_if_eq (tgt := 153) hx hb dX8_isAllGround_140 (by decide) (fun c140 => ?_) (fun c140 => ?_)
                    · skip
                      refine lv_iload_n hx hb dX8_isAllGround_153 rfl (lv_at hl 5 rfl) ?_
                      refine lv_istore_n (lv' := [(3, .int x3), (5, .int v135), (4, .int v117), (0, .ref (ad 0)), (1, .int x1), (2, .int x2), (6, .int x6)]) hx hb dX8_isAllGround_154 rfl hl (by decide) rfl (fun ls hl => ?_)
                      refine lv_iload hx hb dX8_isAllGround_155 (lv_at hl 1 rfl) ?_
                      refine z_if_eq (tgt := 164) hx hb dX8_isAllGround_157 (by decide) (fun c157 => ?_) (fun c157 => ?_)
                      · skip
                        refine lv_iload hx hb dX8_isAllGround_164 (lv_at hl 6 rfl) ?_
                        refine lv_istore (lv' := [(6, .int x6), (3, .int x3), (5, .int v135), (4, .int v117), (0, .ref (ad 0)), (1, .int x1), (2, .int x2)]) hx hb dX8_isAllGround_166 hl (by decide) rfl (fun ls hl => ?_)
                        exact J168 _ _ _ x1 x2 x3 v117 v135 x6 hP hS hO (by omega) (by omega) (by omega) (by omega) (by omega) (by omega) (by omega) _ (lv_sub hl [4, 5, 6, 1, 3, 2, 0] rfl)
                      · skip
                        exfalso; omega
                    · skip
                      exfalso; omega
                  · skip
                    refine z_ic hx hb dX8_isAllGround_131 (by decide) (fun v131 h131 => ?_)
                    refine lv_goto (tgt := 136) hx hb dX8_isAllGround_132 (by decide) ?_
                    refine lv_istore (lv' := [(5, .int v131), (4, .int v117), (0, .ref (ad 0)), (1, .int x1), (2, .int x2), (3, .int x3), (6, .int x6)]) hx hb dX8_isAllGround_136 hl (by decide) rfl (fun ls hl => ?_)
                    refine lv_iload hx hb dX8_isAllGround_138 (lv_at hl 0 rfl) ?_
                    refine z_if_eq (tgt := 153) hx hb dX8_isAllGround_140 (by decide) (fun c140 => ?_) (fun c140 => ?_)
                    · skip
                      exfalso; omega
                    · skip
                      refine lv_aload_n hx hb dX8_isAllGround_143 rfl (lv_at hl 2 rfl) ?_
                      refine va_get (ci := 8) (C := RX8) (T := TX8) (N := 49) (v := .ref (ad 10)) hx hb hts inX8 hown hK hP 0 (zw_at (by decide) e91) rfl 20 (by decide) fl38 (fun _ h => h) rfl dX8_isAllGround_144 ?_
                      refine lv_iload hx hb dX8_isAllGround_147 (lv_at hl 6 rfl) ?_
                      refine z_iald hx hb hK hP (q0 := 10) 0 (by decide) e107 rfl (by omega) dX8_isAllGround_149 (fun v149 h149 => ?_)
                      have h149a := z_rng v149
                      have h149b : v149.toInt = v107.toInt := z_same h149 h107a
                      refine lv_goto (tgt := 154) hx hb dX8_isAllGround_150 (by decide) ?_
                      refine lv_istore_n (lv' := [(3, .int v149), (5, .int v131), (4, .int v117), (0, .ref (ad 0)), (1, .int x1), (2, .int x2), (6, .int x6)]) hx hb dX8_isAllGround_154 rfl hl (by decide) rfl (fun ls hl => ?_)
                      refine lv_iload hx hb dX8_isAllGround_155 (lv_at hl 1 rfl) ?_
                      refine z_if_eq (tgt := 164) hx hb dX8_isAllGround_157 (by decide) (fun c157 => ?_) (fun c157 => ?_)
                      · skip
                        exfalso; omega
                      · skip
                        refine lv_iload_n hx hb dX8_isAllGround_160 rfl (lv_at hl 5 rfl) ?_
                        refine lv_goto (tgt := 166) hx hb dX8_isAllGround_161 (by decide) ?_
                        refine lv_istore (lv' := [(6, .int x2), (3, .int v149), (5, .int v131), (4, .int v117), (0, .ref (ad 0)), (1, .int x1), (2, .int x2)]) hx hb dX8_isAllGround_166 hl (by decide) rfl (fun ls hl => ?_)
                        exact J168 _ _ _ x1 x2 v149 v117 v131 x2 hP hS hO (by omega) (by omega) (by omega) (by omega) (by omega) (by omega) (by omega) _ (lv_sub hl [4, 5, 6, 1, 3, 2, 0] rfl)
      intro H locs ce x1 x2 x3 x4 x5 hP hS hO q_x2 q_x3 q_x4 q_x5 hm ls hl
      refine lv_iload hx hb dX8_isAllGround_73 (lv_at hl 5 rfl) ?_
      refine z_if_eq (tgt := 177) hx hb dX8_isAllGround_75 (by decide) (fun c75 => ?_) (fun c75 => ?_)
      · skip
        refine lv_iload hx hb dX8_isAllGround_177 (lv_at hl 4 rfl) ?_
        refine z_if_eq (tgt := 212) hx hb dX8_isAllGround_179 (by decide) (fun c179 => ?_) (fun c179 => ?_)
        · skip
          exact J212 _ _ _ x1 hP hS hO _ (lv_sub hl [0, 1] rfl)
        · skip
          refine lv_iload_n hx hb dX8_isAllGround_182 rfl (lv_at hl 3 rfl) ?_
          refine lv_aload_n hx hb dX8_isAllGround_183 rfl (lv_at hl 0 rfl) ?_
          obtain ⟨v184, v184a, v184b, v184c, v184d, v184e, v184f, v184g, v184h, v184i, v184j, v184k, v184l, v184m, v184n, v184o, e184, h184, h184a, h184b, h184c, h184d, h184e, h184f, h184g, h184h, h184i, h184j, h184k, h184l, h184m, h184n, h184o, h184p, h184q, h184r, h184s, h184t, h184u⟩ := mg_Mo hO
          refine va_get (ci := 8) (C := RX8) (T := TX8) (N := 49) (v := .int v184f) hx hb hts inX8 hown hK hP 0 (zw_at (by decide) e184) rfl 14 (by decide) fl161 (fun _ h => h) rfl dX8_isAllGround_184 ?_
          refine z_if_ne (tgt := 201) hx hb dX8_isAllGround_187 (by decide) (fun c187 => ?_) (fun c187 => ?_)
          · skip
            exact J201 _ _ _ x1 x3 hP hS hO (by omega) _ (lv_sub hl [0, 1] rfl)
          · skip
            refine lv_aload_n hx hb dX8_isAllGround_190 rfl (lv_at hl 0 rfl) ?_
            refine va_get (ci := 8) (C := RX8) (T := TX8) (N := 49) (v := .int v184g) hx hb hts inX8 hown hK hP 0 (zw_at (by decide) e184) rfl 15 (by decide) fl164 (fun _ h => h) rfl dX8_isAllGround_191 ?_
            refine z_if_ne (tgt := 201) hx hb dX8_isAllGround_194 (by decide) (fun c194 => ?_) (fun c194 => ?_)
            · skip
              exact J201 _ _ _ x1 x3 hP hS hO (by omega) _ (lv_sub hl [0, 1] rfl)
            · skip
              refine z_ic hx hb dX8_isAllGround_197 (by decide) (fun v197 h197 => ?_)
              refine lv_goto (tgt := 205) hx hb dX8_isAllGround_198 (by decide) ?_
              exact J205 _ _ _ x1 x3 v197 hP hS hO (by omega) _ (lv_sub hl [0, 1] rfl)
      · skip
        refine z_ic hx hb dX8_isAllGround_78 (by decide) (fun v78 h78 => ?_)
        refine lv_istore (lv' := [(5, .int v78), (0, .ref (ad 0)), (1, .int x1), (2, .int x2), (3, .int x3), (4, .int x4)]) hx hb dX8_isAllGround_79 hl (by decide) rfl (fun ls hl => ?_)
        refine z_ic hx hb dX8_isAllGround_81 (by decide) (fun v81 h81 => ?_)
        refine lv_istore (lv' := [(6, .int v81), (5, .int v78), (0, .ref (ad 0)), (1, .int x1), (2, .int x2), (3, .int x3), (4, .int x4)]) hx hb dX8_isAllGround_82 hl (by decide) rfl (fun ls hl => ?_)
        exact L84 15 _ _ _ x1 x2 x3 x4 v78 v81 hP hS hO (by omega) (by omega) (by omega) (by omega) (by omega) (by omega) (by omega) _ (lv_sub hl [2, 3, 4, 5, 6, 1, 0] rfl)
  have L4 : ∀ N4 : Nat, ∀ (H : Heap) (locs : List Loc) (ce : Nat → va_E) (x1 : Int32) (x2 : Int32) (x3 : Int32), va_P D vwCl (zw 34 ad ce) H → va_S (zA 34 ad) s.heap H locs → mOK cy ad cnt nd wn S By Ah ce → (0 ≤ x2.toInt ∧ x2.toInt ≤ 12) → (0 ≤ x3.toInt ∧ x3.toInt ≤ 12) → (x2.toInt ≤ x3.toInt) → (13 - x3.toInt ≤ (N4 : Int)) → ∀ ls : Array Slot, lv_has ls 8 [(0, .ref (ad 0)), (1, .int x1), (2, .int x2), (3, .int x3)] → W p l e { frames := 3, cells := 0, slots := 0, locals := 72 } s m ([.ref (ad 0), .int p1] : List Value).toArray below meth c H locs 0 0 (MQ below (zQi D 34 ad (fun r ce => mOK cy ad cnt nd wn S By Ah ce ∧ (0 ≤ r.toInt ∧ r.toInt ≤ 1))) ([.ref (ad 0), .int p1] : List Value).toArray s 0 0 (zA 34 ad)) (F0 m 4 ls []) := by
    intro N4
    induction N4 with
    | zero =>
      intro H locs ce x1 x2 x3 hP hS hO q_x2 q_x3 qx0 hm ls hl
      exfalso; omega
    | succ N4 ih4 =>
      have J59 : ∀ (H : Heap) (locs : List Loc) (ce : Nat → va_E) (x1 : Int32) (x2 : Int32) (x3 : Int32), va_P D vwCl (zw 34 ad ce) H → va_S (zA 34 ad) s.heap H locs → mOK cy ad cnt nd wn S By Ah ce → (0 ≤ x2.toInt ∧ x2.toInt ≤ 12) → (0 ≤ x3.toInt ∧ x3.toInt ≤ 11) → (x2.toInt ≤ x3.toInt + 1) → (13 - x3.toInt ≤ (N4 : Int) + 1) → ∀ ls : Array Slot, lv_has ls 8 [(0, .ref (ad 0)), (1, .int x1), (2, .int x2), (3, .int x3)] → W p l e { frames := 3, cells := 0, slots := 0, locals := 72 } s m ([.ref (ad 0), .int p1] : List Value).toArray below meth c H locs 0 0 (MQ below (zQi D 34 ad (fun r ce => mOK cy ad cnt nd wn S By Ah ce ∧ (0 ≤ r.toInt ∧ r.toInt ≤ 1))) ([.ref (ad 0), .int p1] : List Value).toArray s 0 0 (zA 34 ad)) (F0 m 59 ls []) := by
        intro H locs ce x1 x2 x3 hP hS hO q_x2 q_x3 qx0 qm4 ls hl
        refine z_iinc (lv' := fun w0 => [(3, .int w0), (0, .ref (ad 0)), (1, .int x1), (2, .int x2)]) hx hb dX8_isAllGround_59 hl (k := 3) rfl (by decide) (fun _ => rfl) (by decide) (by omega) (fun v59 ls h59 hl => ?_)
        refine lv_goto (tgt := 4) hx hb dX8_isAllGround_62 (by decide) ?_
        exact ih4 _ _ _ x1 x2 v59 hP hS hO (by omega) (by omega) (by omega) (by omega) _ (lv_sub hl [1, 2, 3, 0] rfl)
      intro H locs ce x1 x2 x3 hP hS hO q_x2 q_x3 qx0 hm ls hl
      refine lv_iload_n hx hb dX8_isAllGround_4 rfl (lv_at hl 3 rfl) ?_
      refine lv_aload_n hx hb dX8_isAllGround_5 rfl (lv_at hl 0 rfl) ?_
      obtain ⟨v6, v6a, v6b, v6c, v6d, v6e, v6f, v6g, v6h, v6i, v6j, v6k, v6l, v6m, v6n, v6o, e6, h6, h6a, h6b, h6c, h6d, h6e, h6f, h6g, h6h, h6i, h6j, h6k, h6l, h6m, h6n, h6o, h6p, h6q, h6r, h6s, h6t, h6u⟩ := mg_Mo hO
      refine va_get (ci := 8) (C := RX8) (T := TX8) (N := 49) (v := .int v6) hx hb hts inX8 hown hK hP 0 (zw_at (by decide) e6) rfl 0 (by decide) fl121 (fun _ h => h) rfl dX8_isAllGround_6 ?_
      refine z_icmp_ge (tgt := 65) hx hb dX8_isAllGround_9 (by decide) (fun c9 => ?_) (fun c9 => ?_)
      · skip
        refine z_ic hx hb dX8_isAllGround_65 (by decide) (fun v65 h65 => ?_)
        refine lv_istore_n (lv' := [(3, .int v65), (0, .ref (ad 0)), (1, .int x1), (2, .int x2)]) hx hb dX8_isAllGround_66 rfl hl (by decide) rfl (fun ls hl => ?_)
        refine z_ic hx hb dX8_isAllGround_67 (by decide) (fun v67 h67 => ?_)
        refine lv_istore (lv' := [(4, .int v67), (3, .int v65), (0, .ref (ad 0)), (1, .int x1), (2, .int x2)]) hx hb dX8_isAllGround_68 hl (by decide) rfl (fun ls hl => ?_)
        refine z_ic hx hb dX8_isAllGround_70 (by decide) (fun v70 h70 => ?_)
        refine lv_istore (lv' := [(5, .int v70), (4, .int v67), (3, .int v65), (0, .ref (ad 0)), (1, .int x1), (2, .int x2)]) hx hb dX8_isAllGround_71 hl (by decide) rfl (fun ls hl => ?_)
        exact L73 8589934600 _ _ _ x1 x2 v65 v67 v70 hP hS hO (by omega) (by omega) (by omega) (by omega) (by omega) _ (lv_sub hl [3, 4, 5, 2, 1, 0] rfl)
      · skip
        refine lv_aload_n hx hb dX8_isAllGround_12 rfl (lv_at hl 0 rfl) ?_
        refine va_get (ci := 8) (C := RX8) (T := TX8) (N := 49) (v := .ref (ad 1)) hx hb hts inX8 hown hK hP 0 (zw_at (by decide) e6) rfl 1 (by decide) fl7 (fun _ h => h) rfl dX8_isAllGround_13 ?_
        refine z_ic hx hb dX8_isAllGround_16 (by decide) (fun v16 h16 => ?_)
        refine lv_iload_n hx hb dX8_isAllGround_17 rfl (lv_at hl 3 rfl) ?_
        refine z_mulJ hx hb 5 dX8_isAllGround_18 (by omega) (by omega) (fun v18 h18 => ?_)
        obtain ⟨f19, e19⟩ := mg_Rm hO
        refine z_iald hx hb hK hP (q0 := 1) 0 (by decide) e19 rfl (by omega) dX8_isAllGround_19 (fun v19 h19a => ?_)
        refine lv_iload_n hx hb dX8_isAllGround_20 rfl (lv_at hl 1 rfl) ?_
        refine z_icmp_ne (tgt := 59) hx hb dX8_isAllGround_21 (by decide) (fun c21 => ?_) (fun c21 => ?_)
        · skip
          exact J59 _ _ _ x1 x2 x3 hP hS hO (by omega) (by omega) (by omega) (by omega) _ (lv_sub hl [0, 1, 2, 3] rfl)
        · skip
          refine lv_aload_n hx hb dX8_isAllGround_24 rfl (lv_at hl 0 rfl) ?_
          refine lv_aload_n hx hb dX8_isAllGround_25 rfl (lv_at hl 0 rfl) ?_
          refine va_get (ci := 8) (C := RX8) (T := TX8) (N := 49) (v := .ref (ad 1)) hx hb hts inX8 hown hK hP 0 (zw_at (by decide) e6) rfl 1 (by decide) fl7 (fun _ h => h) rfl dX8_isAllGround_26 ?_
          refine lv_iload_n hx hb dX8_isAllGround_29 rfl (lv_at hl 3 rfl) ?_
          refine z_ci (z_rV (q0 := 0) (As := [.ref (ad 1), .int x3]) (rest := []) ⟨hx, hb, hml, hown, hts⟩ (c_X8_meets_Rm l D cy ad cnt nd wn S By Ah hJ x3 (by omega)) (cwV 2 hts (g_V mw_361 mw_362 mw_363 mw_324 mw_364) rfl rfl rfl (by decide +kernel) ⟨Nat.le_of_ble_eq_true rfl, Nat.le_of_ble_eq_true rfl⟩) hK hN hO hP (by decide) e6 rfl rfl hl.1 rfl (Nat.le_of_ble_eq_true rfl) dX8_isAllGround_30 ⟨Nat.zero_le _, Nat.zero_le _⟩) hS (fun v30 ce H locs h30 hP hS => ?_)
          obtain ⟨hO, h30a⟩ := h30
          refine z_if_eq (tgt := 59) hx hb dX8_isAllGround_33 (by decide) (fun c33 => ?_) (fun c33 => ?_)
          · skip
            exact J59 _ _ _ x1 x2 x3 hP hS hO (by omega) (by omega) (by omega) (by omega) _ (lv_sub hl [0, 1, 2, 3] rfl)
          · skip
            refine lv_aload_n hx hb dX8_isAllGround_36 rfl (lv_at hl 0 rfl) ?_
            obtain ⟨v37, v37a, v37b, v37c, v37d, v37e, v37f, v37g, v37h, v37i, v37j, v37k, v37l, v37m, v37n, v37o, e37, h37, h37a, h37b, h37c, h37d, h37e, h37f, h37g, h37h, h37i, h37j, h37k, h37l, h37m, h37n, h37o, h37p, h37q, h37r, h37s, h37t, h37u⟩ := mg_Mo hO
            refine va_get (ci := 8) (C := RX8) (T := TX8) (N := 49) (v := .ref (ad 9)) hx hb hts inX8 hown hK hP 0 (zw_at (by decide) e37) rfl 19 (by decide) fl35 (fun _ h => h) rfl dX8_isAllGround_37 ?_
            refine lv_iload_n hx hb dX8_isAllGround_40 rfl (lv_at hl 2 rfl) ?_
            refine lv_aload_n hx hb dX8_isAllGround_41 rfl (lv_at hl 0 rfl) ?_
            refine va_get (ci := 8) (C := RX8) (T := TX8) (N := 49) (v := .int v37i) hx hb hts inX8 hown hK hP 0 (zw_at (by decide) e37) rfl 17 (by decide) fl174 (fun _ h => h) rfl dX8_isAllGround_42 ?_
            obtain ⟨f45, e45⟩ := mg_Sf hO
            refine z_iast hx hb hK hJ hP hS (q0 := 9) 0 (by decide) e45 rfl (z_in (by omega) (by omega)) dX8_isAllGround_45 (fun ce H locs e45a h45a hP hS => ?_)
            have hO := z_up (OKK := mK cy ad cnt nd wn S By Ah) 9 hO h45a (by rw [e45a]; exact mE_Sf |>.mpr ⟨_, rfl⟩)
            have e45b := (h45a 0 (by omega)).trans e37
            refine lv_aload_n hx hb dX8_isAllGround_46 rfl (lv_at hl 0 rfl) ?_
            refine va_get (ci := 8) (C := RX8) (T := TX8) (N := 49) (v := .ref (ad 10)) hx hb hts inX8 hown hK hP 0 (zw_at (by decide) e45b) rfl 20 (by decide) fl38 (fun _ h => h) rfl dX8_isAllGround_47 ?_
            refine lv_iload_n hx hb dX8_isAllGround_50 rfl (lv_at hl 2 rfl) ?_
            refine lv_aload_n hx hb dX8_isAllGround_51 rfl (lv_at hl 0 rfl) ?_
            refine va_get (ci := 8) (C := RX8) (T := TX8) (N := 49) (v := .int v37j) hx hb hts inX8 hown hK hP 0 (zw_at (by decide) e45b) rfl 18 (by decide) fl177 (fun _ h => h) rfl dX8_isAllGround_52 ?_
            obtain ⟨f55, e55⟩ := mg_Sp hO
            refine z_iast hx hb hK hJ hP hS (q0 := 10) 0 (by decide) e55 rfl (z_in (by omega) (by omega)) dX8_isAllGround_55 (fun ce H locs e55a h55a hP hS => ?_)
            have hO := z_up (OKK := mK cy ad cnt nd wn S By Ah) 10 hO h55a (by rw [e55a]; exact mE_Sp |>.mpr ⟨_, rfl⟩)
            have e55b := (h55a 0 (by omega)).trans e45b
            refine z_iinc (lv' := fun w0 => [(2, .int w0), (0, .ref (ad 0)), (1, .int x1), (3, .int x3)]) hx hb dX8_isAllGround_56 hl (k := 2) rfl (by decide) (fun _ => rfl) (by decide) (by omega) (fun v56 ls h56 hl => ?_)
            exact J59 _ _ _ x1 v56 x3 hP hS hO (by omega) (by omega) (by omega) (by omega) _ (lv_sub hl [1, 2, 0, 3] rfl)
  intro ls hl
  have hl : lv_has ls 8 [(0, .ref (ad 0)), (1, .int p1)] := hl
  refine z_ic hx hb dX8_isAllGround_0 (by decide) (fun v0 h0 => ?_)
  refine lv_istore_n (lv' := [(2, .int v0), (0, .ref (ad 0)), (1, .int p1)]) hx hb dX8_isAllGround_1 rfl hl (by decide) rfl (fun ls hl => ?_)
  refine z_ic hx hb dX8_isAllGround_2 (by decide) (fun v2 h2 => ?_)
  refine lv_istore_n (lv' := [(3, .int v2), (2, .int v0), (0, .ref (ad 0)), (1, .int p1)]) hx hb dX8_isAllGround_3 rfl hl (by decide) rfl (fun ls hl => ?_)
  exact L4 14 _ _ _ p1 v0 v2 hP hS hO (by omega) (by omega) (by omega) (by omega) _ (lv_sub hl [2, 3, 1, 0] rfl)
set_option maxHeartbeats 8000000 in
set_option maxRecDepth 100000 in
theorem c_X8_isWrongWay (l : Launch) (D : va_G) (cy : Nat → ClassId) (ad : Nat → Nat) (cnt : Nat → Nat) (nd : Nat) (wn : Nat) (S : Nat → Int32) (By : Nat → Int32) (Ah : Nat → Int32) (PP : (Nat → va_E) → Prop) (hJ : zJ 34 ad) (p1 : Int32) (q_p1 : 0 ≤ p1.toInt ∧ p1.toInt ≤ 5) : zM l D (mT cy) 34 ad (fun c1 => mOK cy ad cnt nd wn S By Ah c1 ∧ PP c1) yX8_isWrongWay vsX8_isWrongWay { frames := 1, cells := 0, slots := 0, locals := 20 } ([.ref (ad 0), .int p1] : List Value) (zQi D 34 ad (fun r ce => (mOK cy ad cnt nd wn S By Ah ce ∧ PP ce) ∧ (0 ≤ r.toInt ∧ r.toInt ≤ 1))) := by
  refine z_of (cc := cX8_isWrongWay) (maxL := 17) (ret := (some .boolean)) (by decide) rfl (Nat.le_of_ble_eq_true rfl) ?_
  intro p e s m below meth c hx hb hr hts hown hlocks hml hK hN ce hOK hP
  have hown : s.vm.findClass RX8 = some m.cls := hown
  have hS : va_S (zA 34 ad) s.heap s.heap [] := va_S.rf
  obtain ⟨hO, hPP⟩ := hOK
  have inX8 : ∀ w ∈ u_ws RX8 TX8 49, w ∈ vsX8_isWrongWay := fun w h => List.mem_cons_of_mem _ (inlX8 w h)
  have fl26 := hts (.fieldLink RX8 26 "GroundKeeperModel" "ledge" "[I") (List.mem_cons_of_mem _ mw_344)
  have fl29 := hts (.fieldLink RX8 29 "GroundKeeperModel" "rises" "[Z") (List.mem_cons_of_mem _ mw_345)
  have fl155 := hts (.fieldLink RX8 155 "GroundKeeperModel" "lx" "I") (List.mem_cons_of_mem _ mw_329)
  have fl158 := hts (.fieldLink RX8 158 "GroundKeeperModel" "ly" "I") (List.mem_cons_of_mem _ mw_330)
  have fl161 := hts (.fieldLink RX8 161 "GroundKeeperModel" "dx" "I") (List.mem_cons_of_mem _ mw_331)
  have fl164 := hts (.fieldLink RX8 164 "GroundKeeperModel" "dy" "I") (List.mem_cons_of_mem _ mw_332)
  have J214 : ∀ (H : Heap) (locs : List Loc) (x1 : Int32) (x7 : Int32) (x8 : Int32) (x9 : Int32) (x10 : Int32) (x11 : Int32) (x12 : Int32) (x13 : Int32) (s0 : Int32), va_P D vwCl (zw 34 ad ce) H → va_S (zA 34 ad) s.heap H locs → (0 ≤ x1.toInt ∧ x1.toInt ≤ 5) → (0 ≤ s0.toInt ∧ s0.toInt ≤ 1) → ∀ ls : Array Slot, lv_has ls 17 [(0, .ref (ad 0)), (1, .int x1), (7, .int x7), (8, .int x8), (9, .int x9), (10, .int x10), (11, .int x11), (12, .int x12), (13, .int x13)] → W p l e { frames := 1, cells := 0, slots := 0, locals := 20 } s m ([.ref (ad 0), .int p1] : List Value).toArray below meth c H locs 0 0 (MQ below (zQi D 34 ad (fun r ce => (mOK cy ad cnt nd wn S By Ah ce ∧ PP ce) ∧ (0 ≤ r.toInt ∧ r.toInt ≤ 1))) ([.ref (ad 0), .int p1] : List Value).toArray s 0 0 (zA 34 ad)) (F0 m 214 ls [.int s0]) := by
    intro H locs x1 x7 x8 x9 x10 x11 x12 x13 s0 hP hS q_x1 q_s0 ls hl
    refine lv_aload_n hx hb dX8_isWrongWay_214 rfl (lv_at hl 0 rfl) ?_
    obtain ⟨v215, v215a, v215b, v215c, v215d, v215e, v215f, v215g, v215h, v215i, v215j, v215k, v215l, v215m, v215n, v215o, e215, h215, h215a, h215b, h215c, h215d, h215e, h215f, h215g, h215h, h215i, h215j, h215k, h215l, h215m, h215n, h215o, h215p, h215q, h215r, h215s, h215t, h215u⟩ := mg_Mo hO
    refine va_get (ci := 8) (C := RX8) (T := TX8) (N := 49) (v := .ref (ad 7)) hx hb hts inX8 hown hK hP 0 (zw_at (by decide) e215) rfl 9 (by decide) fl29 (fun _ h => h) rfl dX8_isWrongWay_215 ?_
    refine lv_iload_n hx hb dX8_isWrongWay_218 rfl (lv_at hl 1 rfl) ?_
    obtain ⟨f219, e219⟩ := mg_Ri hO
    refine z_zald hx hb hK hP (q0 := 7) 1 (by decide) e219 rfl (by omega) dX8_isWrongWay_219 (fun v219 h219a => ?_)
    refine z_icmp_ne (tgt := 225) hx hb dX8_isWrongWay_220 (by decide) (fun c220 => ?_) (fun c220 => ?_)
    · skip
      refine lv_iload hx hb dX8_isWrongWay_225 (lv_at hl 4 rfl) ?_
      refine z_ciP (z_rS (As := [.int x9]) (rest := []) ⟨hx, hb, hml, hown, hts⟩ (c_X8_size l D (mT cy) 34 ad (fun c1 => c1 = ce) x9) (va_cwS 1 hts (g_S mw_350 mw_351 mw_324 mw_352) rfl rfl rfl (by decide +kernel) ⟨Nat.le_of_ble_eq_true rfl, Nat.le_of_ble_eq_true rfl⟩) hK hN rfl hP rfl hl.1 rfl (Nat.le_of_ble_eq_true rfl) dX8_isWrongWay_227 ⟨Nat.zero_le _, Nat.zero_le _⟩) hS (fun _ h => h) (fun v227 H locs h227 hP hS => ?_)
      refine lv_istore (lv' := [(15, .int v227), (0, .ref (ad 0)), (1, .int x1), (7, .int x7), (8, .int x8), (9, .int x9), (10, .int x10), (11, .int x11), (12, .int x12), (13, .int x13)]) hx hb dX8_isWrongWay_230 hl (by decide) rfl (fun ls hl => ?_)
      refine lv_iload hx hb dX8_isWrongWay_232 (lv_at hl 6 rfl) ?_
      refine lv_iload hx hb dX8_isWrongWay_234 (lv_at hl 0 rfl) ?_
      refine lv_imul hx hb dX8_isWrongWay_236 ?_
      refine lv_topi (fun v236 _ => ?_)
      refine lv_iload hx hb dX8_isWrongWay_237 (lv_at hl 7 rfl) ?_
      refine lv_iload hx hb dX8_isWrongWay_239 (lv_at hl 3 rfl) ?_
      refine lv_iload hx hb dX8_isWrongWay_241 (lv_at hl 4 rfl) ?_
      refine lv_isub hx hb dX8_isWrongWay_243 ?_
      refine lv_topi (fun v243 _ => ?_)
      refine z_ciP (z_rS (As := [.int v243]) (rest := [.int x11, .int v236]) ⟨hx, hb, hml, hown, hts⟩ (c_X8_size l D (mT cy) 34 ad (fun c1 => c1 = ce) v243) (va_cwS 1 hts (g_S mw_350 mw_351 mw_324 mw_352) rfl rfl rfl (by decide +kernel) ⟨Nat.le_of_ble_eq_true rfl, Nat.le_of_ble_eq_true rfl⟩) hK hN rfl hP rfl hl.1 rfl (Nat.le_of_ble_eq_true rfl) dX8_isWrongWay_244 ⟨Nat.zero_le _, Nat.zero_le _⟩) hS (fun _ h => h) (fun v244 H locs h244 hP hS => ?_)
      refine lv_imul hx hb dX8_isWrongWay_247 ?_
      refine lv_topi (fun v247 _ => ?_)
      refine lv_iadd hx hb dX8_isWrongWay_248 ?_
      refine lv_topi (fun v248 _ => ?_)
      refine lv_istore (lv' := [(16, .int v248), (15, .int v227), (0, .ref (ad 0)), (1, .int x1), (7, .int x7), (8, .int x8), (9, .int x9), (10, .int x10), (11, .int x11), (12, .int x12), (13, .int x13)]) hx hb dX8_isWrongWay_249 hl (by decide) rfl (fun ls hl => ?_)
      refine lv_iload hx hb dX8_isWrongWay_251 (lv_at hl 0 rfl) ?_
      refine lv_iload hx hb dX8_isWrongWay_253 (lv_at hl 9 rfl) ?_
      refine lv_iload hx hb dX8_isWrongWay_255 (lv_at hl 1 rfl) ?_
      refine lv_imul hx hb dX8_isWrongWay_257 ?_
      refine lv_topi (fun v257 _ => ?_)
      refine z_icmp_lt (tgt := 275) hx hb dX8_isWrongWay_258 (by decide) (fun c258 => ?_) (fun c258 => ?_)
      · skip
        refine z_ic hx hb dX8_isWrongWay_275 (by decide) (fun v275 h275 => ?_)
        exact z_retz hx hb hr hlocks hP hS dX8_isWrongWay_276 (by omega) ⟨⟨hO, hPP⟩, (by omega)⟩
      · skip
        refine lv_iload hx hb dX8_isWrongWay_261 (lv_at hl 0 rfl) ?_
        refine lv_iload hx hb dX8_isWrongWay_263 (lv_at hl 10 rfl) ?_
        refine lv_iload hx hb dX8_isWrongWay_265 (lv_at hl 1 rfl) ?_
        refine lv_imul hx hb dX8_isWrongWay_267 ?_
        refine lv_topi (fun v267 _ => ?_)
        refine z_icmp_gt (tgt := 275) hx hb dX8_isWrongWay_268 (by decide) (fun c268 => ?_) (fun c268 => ?_)
        · skip
          refine z_ic hx hb dX8_isWrongWay_275 (by decide) (fun v275 h275 => ?_)
          exact z_retz hx hb hr hlocks hP hS dX8_isWrongWay_276 (by omega) ⟨⟨hO, hPP⟩, (by omega)⟩
        · skip
          refine z_ic hx hb dX8_isWrongWay_271 (by decide) (fun v271 h271 => ?_)
          refine lv_goto (tgt := 276) hx hb dX8_isWrongWay_272 (by decide) ?_
          exact z_retz hx hb hr hlocks hP hS dX8_isWrongWay_276 (by omega) ⟨⟨hO, hPP⟩, (by omega)⟩
    · skip
      refine z_ic hx hb dX8_isWrongWay_223 (by decide) (fun v223 h223 => ?_)
      exact z_retz hx hb hr hlocks hP hS dX8_isWrongWay_224 (by omega) ⟨⟨hO, hPP⟩, (by omega)⟩
  have J204 : ∀ (H : Heap) (locs : List Loc) (x1 : Int32) (x7 : Int32) (x8 : Int32) (x9 : Int32) (x10 : Int32) (x11 : Int32) (x12 : Int32) (x13 : Int32), va_P D vwCl (zw 34 ad ce) H → va_S (zA 34 ad) s.heap H locs → (0 ≤ x1.toInt ∧ x1.toInt ≤ 5) → ∀ ls : Array Slot, lv_has ls 17 [(0, .ref (ad 0)), (1, .int x1), (7, .int x7), (8, .int x8), (9, .int x9), (10, .int x10), (11, .int x11), (12, .int x12), (13, .int x13)] → W p l e { frames := 1, cells := 0, slots := 0, locals := 20 } s m ([.ref (ad 0), .int p1] : List Value).toArray below meth c H locs 0 0 (MQ below (zQi D 34 ad (fun r ce => (mOK cy ad cnt nd wn S By Ah ce ∧ PP ce) ∧ (0 ≤ r.toInt ∧ r.toInt ≤ 1))) ([.ref (ad 0), .int p1] : List Value).toArray s 0 0 (zA 34 ad)) (F0 m 204 ls []) := by
    intro H locs x1 x7 x8 x9 x10 x11 x12 x13 hP hS q_x1 ls hl
    refine lv_iload hx hb dX8_isWrongWay_204 (lv_at hl 4 rfl) ?_
    refine z_if_le (tgt := 213) hx hb dX8_isWrongWay_206 (by decide) (fun c206 => ?_) (fun c206 => ?_)
    · skip
      refine z_ic hx hb dX8_isWrongWay_213 (by decide) (fun v213 h213 => ?_)
      exact J214 _ _ x1 x7 x8 x9 x10 x11 x12 x13 v213 hP hS (by omega) (by omega) _ (lv_sub hl [0, 1, 2, 3, 4, 5, 6, 7, 8] rfl)
    · skip
      refine z_ic hx hb dX8_isWrongWay_209 (by decide) (fun v209 h209 => ?_)
      refine lv_goto (tgt := 214) hx hb dX8_isWrongWay_210 (by decide) ?_
      exact J214 _ _ x1 x7 x8 x9 x10 x11 x12 x13 v209 hP hS (by omega) (by omega) _ (lv_sub hl [0, 1, 2, 3, 4, 5, 6, 7, 8] rfl)
  have J190 : ∀ (H : Heap) (locs : List Loc) (x1 : Int32) (x7 : Int32) (x8 : Int32) (x9 : Int32) (x10 : Int32) (x11 : Int32) (x12 : Int32) (x13 : Int32) (x14 : Int32), va_P D vwCl (zw 34 ad ce) H → va_S (zA 34 ad) s.heap H locs → (0 ≤ x1.toInt ∧ x1.toInt ≤ 5) → ∀ ls : Array Slot, lv_has ls 17 [(0, .ref (ad 0)), (1, .int x1), (7, .int x7), (8, .int x8), (9, .int x9), (10, .int x10), (11, .int x11), (12, .int x12), (13, .int x13), (14, .int x14)] → W p l e { frames := 1, cells := 0, slots := 0, locals := 20 } s m ([.ref (ad 0), .int p1] : List Value).toArray below meth c H locs 0 0 (MQ below (zQi D 34 ad (fun r ce => (mOK cy ad cnt nd wn S By Ah ce ∧ PP ce) ∧ (0 ≤ r.toInt ∧ r.toInt ≤ 1))) ([.ref (ad 0), .int p1] : List Value).toArray s 0 0 (zA 34 ad)) (F0 m 190 ls []) := by
    intro H locs x1 x7 x8 x9 x10 x11 x12 x13 x14 hP hS q_x1 ls hl
    refine lv_iload hx hb dX8_isWrongWay_190 (lv_at hl 3 rfl) ?_
    refine lv_iload hx hb dX8_isWrongWay_192 (lv_at hl 2 rfl) ?_
    refine z_icmp_le (tgt := 223) hx hb dX8_isWrongWay_194 (by decide) (fun c194 => ?_) (fun c194 => ?_)
    · skip
      refine z_ic hx hb dX8_isWrongWay_223 (by decide) (fun v223 h223 => ?_)
      exact z_retz hx hb hr hlocks hP hS dX8_isWrongWay_224 (by omega) ⟨⟨hO, hPP⟩, (by omega)⟩
    · skip
      refine lv_iload hx hb dX8_isWrongWay_197 (lv_at hl 9 rfl) ?_
      refine lv_iload hx hb dX8_isWrongWay_199 (lv_at hl 2 rfl) ?_
      refine z_icmp_ge (tgt := 223) hx hb dX8_isWrongWay_201 (by decide) (fun c201 => ?_) (fun c201 => ?_)
      · skip
        refine z_ic hx hb dX8_isWrongWay_223 (by decide) (fun v223 h223 => ?_)
        exact z_retz hx hb hr hlocks hP hS dX8_isWrongWay_224 (by omega) ⟨⟨hO, hPP⟩, (by omega)⟩
      · skip
        exact J204 _ _ x1 x7 x8 x9 x10 x11 x12 x13 hP hS (by omega) _ (lv_sub hl [0, 1, 2, 3, 4, 5, 6, 7, 8] rfl)
  have J167 : ∀ (H : Heap) (locs : List Loc) (x1 : Int32) (x7 : Int32) (x8 : Int32) (x9 : Int32) (x10 : Int32) (x11 : Int32) (x12 : Int32) (s0 : Int32), va_P D vwCl (zw 34 ad ce) H → va_S (zA 34 ad) s.heap H locs → (0 ≤ x1.toInt ∧ x1.toInt ≤ 5) → ∀ ls : Array Slot, lv_has ls 17 [(0, .ref (ad 0)), (1, .int x1), (7, .int x7), (8, .int x8), (9, .int x9), (10, .int x10), (11, .int x11), (12, .int x12)] → W p l e { frames := 1, cells := 0, slots := 0, locals := 20 } s m ([.ref (ad 0), .int p1] : List Value).toArray below meth c H locs 0 0 (MQ below (zQi D 34 ad (fun r ce => (mOK cy ad cnt nd wn S By Ah ce ∧ PP ce) ∧ (0 ≤ r.toInt ∧ r.toInt ≤ 1))) ([.ref (ad 0), .int p1] : List Value).toArray s 0 0 (zA 34 ad)) (F0 m 167 ls [.int s0]) := by
    intro H locs x1 x7 x8 x9 x10 x11 x12 s0 hP hS q_x1 ls hl
    refine lv_istore (lv' := [(13, .int s0), (0, .ref (ad 0)), (1, .int x1), (7, .int x7), (8, .int x8), (9, .int x9), (10, .int x10), (11, .int x11), (12, .int x12)]) hx hb dX8_isWrongWay_167 hl (by decide) rfl (fun ls hl => ?_)
    refine lv_iload hx hb dX8_isWrongWay_169 (lv_at hl 4 rfl) ?_
    refine lv_iload hx hb dX8_isWrongWay_171 (lv_at hl 5 rfl) ?_
    refine lv_iadd hx hb dX8_isWrongWay_173 ?_
    refine lv_topi (fun v173 _ => ?_)
    refine lv_istore (lv' := [(14, .int v173), (13, .int s0), (0, .ref (ad 0)), (1, .int x1), (7, .int x7), (8, .int x8), (9, .int x9), (10, .int x10), (11, .int x11), (12, .int x12)]) hx hb dX8_isWrongWay_174 hl (by decide) rfl (fun ls hl => ?_)
    refine lv_iload hx hb dX8_isWrongWay_176 (lv_at hl 5 rfl) ?_
    refine lv_iload hx hb dX8_isWrongWay_178 (lv_at hl 4 rfl) ?_
    refine z_icmp_ge (tgt := 190) hx hb dX8_isWrongWay_180 (by decide) (fun c180 => ?_) (fun c180 => ?_)
    · skip
      exact J190 _ _ x1 x7 x8 x9 x10 x11 x12 s0 v173 hP hS (by omega) _ (lv_sub hl [2, 3, 4, 5, 6, 7, 8, 9, 1, 0] rfl)
    · skip
      refine lv_iload hx hb dX8_isWrongWay_183 (lv_at hl 0 rfl) ?_
      refine lv_iload hx hb dX8_isWrongWay_185 (lv_at hl 4 rfl) ?_
      refine z_icmp_gt (tgt := 204) hx hb dX8_isWrongWay_187 (by decide) (fun c187 => ?_) (fun c187 => ?_)
      · skip
        exact J204 _ _ x1 x7 x8 x9 x10 x11 x12 s0 hP hS (by omega) _ (lv_sub hl [2, 3, 4, 5, 6, 7, 8, 9, 1] rfl)
      · skip
        exact J190 _ _ x1 x7 x8 x9 x10 x11 x12 s0 v173 hP hS (by omega) _ (lv_sub hl [2, 3, 4, 5, 6, 7, 8, 9, 1, 0] rfl)
  have J153 : ∀ (H : Heap) (locs : List Loc) (x1 : Int32) (x4 : Int32) (x5 : Int32) (x6 : Int32) (x7 : Int32) (x8 : Int32) (x9 : Int32) (x10 : Int32) (x11 : Int32) (s0 : Int32), va_P D vwCl (zw 34 ad ce) H → va_S (zA 34 ad) s.heap H locs → (0 ≤ x1.toInt ∧ x1.toInt ≤ 5) → (0 ≤ x6.toInt ∧ x6.toInt ≤ 1) → ∀ ls : Array Slot, lv_has ls 17 [(0, .ref (ad 0)), (1, .int x1), (4, .int x4), (5, .int x5), (6, .int x6), (7, .int x7), (8, .int x8), (9, .int x9), (10, .int x10), (11, .int x11)] → W p l e { frames := 1, cells := 0, slots := 0, locals := 20 } s m ([.ref (ad 0), .int p1] : List Value).toArray below meth c H locs 0 0 (MQ below (zQi D 34 ad (fun r ce => (mOK cy ad cnt nd wn S By Ah ce ∧ PP ce) ∧ (0 ≤ r.toInt ∧ r.toInt ≤ 1))) ([.ref (ad 0), .int p1] : List Value).toArray s 0 0 (zA 34 ad)) (F0 m 153 ls [.int s0]) := by
    intro H locs x1 x4 x5 x6 x7 x8 x9 x10 x11 s0 hP hS q_x1 q_x6 ls hl
    refine lv_istore (lv' := [(12, .int s0), (0, .ref (ad 0)), (1, .int x1), (4, .int x4), (5, .int x5), (6, .int x6), (7, .int x7), (8, .int x8), (9, .int x9), (10, .int x10), (11, .int x11)]) hx hb dX8_isWrongWay_153 hl (by decide) rfl (fun ls hl => ?_)
    refine lv_iload hx hb dX8_isWrongWay_155 (lv_at hl 5 rfl) ?_
    refine z_if_eq (tgt := 165) hx hb dX8_isWrongWay_157 (by decide) (fun c157 => ?_) (fun c157 => ?_)
    · skip
      refine lv_iload hx hb dX8_isWrongWay_165 (lv_at hl 3 rfl) ?_
      exact J167 _ _ x1 x7 x8 x9 x10 x11 s0 x4 hP hS (by omega) _ (lv_sub hl [1, 2, 6, 7, 8, 9, 10, 0] rfl)
    · skip
      refine lv_iload hx hb dX8_isWrongWay_160 (lv_at hl 4 rfl) ?_
      refine lv_goto (tgt := 167) hx hb dX8_isWrongWay_162 (by decide) ?_
      exact J167 _ _ x1 x7 x8 x9 x10 x11 s0 x5 hP hS (by omega) _ (lv_sub hl [1, 2, 6, 7, 8, 9, 10, 0] rfl)
  have J141 : ∀ (H : Heap) (locs : List Loc) (x1 : Int32) (x2 : Int32) (x3 : Int32) (x4 : Int32) (x5 : Int32) (x6 : Int32) (x7 : Int32) (x8 : Int32) (x9 : Int32) (x10 : Int32) (s0 : Int32), va_P D vwCl (zw 34 ad ce) H → va_S (zA 34 ad) s.heap H locs → (0 ≤ x1.toInt ∧ x1.toInt ≤ 5) → (0 ≤ x6.toInt ∧ x6.toInt ≤ 1) → ∀ ls : Array Slot, lv_has ls 17 [(0, .ref (ad 0)), (1, .int x1), (2, .int x2), (3, .int x3), (4, .int x4), (5, .int x5), (6, .int x6), (7, .int x7), (8, .int x8), (9, .int x9), (10, .int x10)] → W p l e { frames := 1, cells := 0, slots := 0, locals := 20 } s m ([.ref (ad 0), .int p1] : List Value).toArray below meth c H locs 0 0 (MQ below (zQi D 34 ad (fun r ce => (mOK cy ad cnt nd wn S By Ah ce ∧ PP ce) ∧ (0 ≤ r.toInt ∧ r.toInt ≤ 1))) ([.ref (ad 0), .int p1] : List Value).toArray s 0 0 (zA 34 ad)) (F0 m 141 ls [.int s0]) := by
    intro H locs x1 x2 x3 x4 x5 x6 x7 x8 x9 x10 s0 hP hS q_x1 q_x6 ls hl
    refine lv_istore (lv' := [(11, .int s0), (0, .ref (ad 0)), (1, .int x1), (2, .int x2), (3, .int x3), (4, .int x4), (5, .int x5), (6, .int x6), (7, .int x7), (8, .int x8), (9, .int x9), (10, .int x10)]) hx hb dX8_isWrongWay_141 hl (by decide) rfl (fun ls hl => ?_)
    refine lv_iload hx hb dX8_isWrongWay_143 (lv_at hl 7 rfl) ?_
    refine z_if_eq (tgt := 152) hx hb dX8_isWrongWay_145 (by decide) (fun c145 => ?_) (fun c145 => ?_)
    · skip
      refine lv_iload_n hx hb dX8_isWrongWay_152 rfl (lv_at hl 3 rfl) ?_
      exact J153 _ _ x1 x4 x5 x6 x7 x8 x9 x10 s0 x2 hP hS (by omega) (by omega) _ (lv_sub hl [1, 2, 5, 6, 7, 8, 9, 10, 11, 0] rfl)
    · skip
      refine lv_iload_n hx hb dX8_isWrongWay_148 rfl (lv_at hl 4 rfl) ?_
      refine lv_goto (tgt := 153) hx hb dX8_isWrongWay_149 (by decide) ?_
      exact J153 _ _ x1 x4 x5 x6 x7 x8 x9 x10 s0 x3 hP hS (by omega) (by omega) _ (lv_sub hl [1, 2, 5, 6, 7, 8, 9, 10, 11, 0] rfl)
  have J123 : ∀ (H : Heap) (locs : List Loc) (x1 : Int32) (x2 : Int32) (x3 : Int32) (x4 : Int32) (x5 : Int32) (x6 : Int32) (x7 : Int32) (x8 : Int32) (x9 : Int32) (s0 : Int32), va_P D vwCl (zw 34 ad ce) H → va_S (zA 34 ad) s.heap H locs → (0 ≤ x1.toInt ∧ x1.toInt ≤ 5) → (0 ≤ x6.toInt ∧ x6.toInt ≤ 1) → ∀ ls : Array Slot, lv_has ls 17 [(0, .ref (ad 0)), (1, .int x1), (2, .int x2), (3, .int x3), (4, .int x4), (5, .int x5), (6, .int x6), (7, .int x7), (8, .int x8), (9, .int x9)] → W p l e { frames := 1, cells := 0, slots := 0, locals := 20 } s m ([.ref (ad 0), .int p1] : List Value).toArray below meth c H locs 0 0 (MQ below (zQi D 34 ad (fun r ce => (mOK cy ad cnt nd wn S By Ah ce ∧ PP ce) ∧ (0 ≤ r.toInt ∧ r.toInt ≤ 1))) ([.ref (ad 0), .int p1] : List Value).toArray s 0 0 (zA 34 ad)) (F0 m 123 ls [.int s0]) := by
    intro H locs x1 x2 x3 x4 x5 x6 x7 x8 x9 s0 hP hS q_x1 q_x6 ls hl
    refine lv_istore (lv' := [(10, .int s0), (0, .ref (ad 0)), (1, .int x1), (2, .int x2), (3, .int x3), (4, .int x4), (5, .int x5), (6, .int x6), (7, .int x7), (8, .int x8), (9, .int x9)]) hx hb dX8_isWrongWay_123 hl (by decide) rfl (fun ls hl => ?_)
    refine lv_iload hx hb dX8_isWrongWay_125 (lv_at hl 7 rfl) ?_
    refine z_if_eq (tgt := 137) hx hb dX8_isWrongWay_127 (by decide) (fun c127 => ?_) (fun c127 => ?_)
    · skip
      refine lv_aload_n hx hb dX8_isWrongWay_137 rfl (lv_at hl 1 rfl) ?_
      obtain ⟨v138, v138a, v138b, v138c, v138d, v138e, v138f, v138g, v138h, v138i, v138j, v138k, v138l, v138m, v138n, v138o, e138, h138, h138a, h138b, h138c, h138d, h138e, h138f, h138g, h138h, h138i, h138j, h138k, h138l, h138m, h138n, h138o, h138p, h138q, h138r, h138s, h138t, h138u⟩ := mg_Mo hO
      refine va_get (ci := 8) (C := RX8) (T := TX8) (N := 49) (v := .int v138f) hx hb hts inX8 hown hK hP 0 (zw_at (by decide) e138) rfl 14 (by decide) fl161 (fun _ h => h) rfl dX8_isWrongWay_138 ?_
      exact J141 _ _ x1 x2 x3 x4 x5 x6 x7 x8 x9 s0 v138f hP hS (by omega) (by omega) _ (lv_sub hl [1, 2, 3, 4, 5, 6, 7, 8, 9, 10, 0] rfl)
    · skip
      refine lv_aload_n hx hb dX8_isWrongWay_130 rfl (lv_at hl 1 rfl) ?_
      obtain ⟨v131, v131a, v131b, v131c, v131d, v131e, v131f, v131g, v131h, v131i, v131j, v131k, v131l, v131m, v131n, v131o, e131, h131, h131a, h131b, h131c, h131d, h131e, h131f, h131g, h131h, h131i, h131j, h131k, h131l, h131m, h131n, h131o, h131p, h131q, h131r, h131s, h131t, h131u⟩ := mg_Mo hO
      refine va_get (ci := 8) (C := RX8) (T := TX8) (N := 49) (v := .int v131g) hx hb hts inX8 hown hK hP 0 (zw_at (by decide) e131) rfl 15 (by decide) fl164 (fun _ h => h) rfl dX8_isWrongWay_131 ?_
      refine lv_goto (tgt := 141) hx hb dX8_isWrongWay_134 (by decide) ?_
      exact J141 _ _ x1 x2 x3 x4 x5 x6 x7 x8 x9 s0 v131g hP hS (by omega) (by omega) _ (lv_sub hl [1, 2, 3, 4, 5, 6, 7, 8, 9, 10, 0] rfl)
  have J105 : ∀ (H : Heap) (locs : List Loc) (x1 : Int32) (x2 : Int32) (x3 : Int32) (x4 : Int32) (x5 : Int32) (x6 : Int32) (x7 : Int32) (x8 : Int32) (s0 : Int32), va_P D vwCl (zw 34 ad ce) H → va_S (zA 34 ad) s.heap H locs → (0 ≤ x1.toInt ∧ x1.toInt ≤ 5) → (0 ≤ x6.toInt ∧ x6.toInt ≤ 1) → ∀ ls : Array Slot, lv_has ls 17 [(0, .ref (ad 0)), (1, .int x1), (2, .int x2), (3, .int x3), (4, .int x4), (5, .int x5), (6, .int x6), (7, .int x7), (8, .int x8)] → W p l e { frames := 1, cells := 0, slots := 0, locals := 20 } s m ([.ref (ad 0), .int p1] : List Value).toArray below meth c H locs 0 0 (MQ below (zQi D 34 ad (fun r ce => (mOK cy ad cnt nd wn S By Ah ce ∧ PP ce) ∧ (0 ≤ r.toInt ∧ r.toInt ≤ 1))) ([.ref (ad 0), .int p1] : List Value).toArray s 0 0 (zA 34 ad)) (F0 m 105 ls [.int s0]) := by
    intro H locs x1 x2 x3 x4 x5 x6 x7 x8 s0 hP hS q_x1 q_x6 ls hl
    refine lv_istore (lv' := [(9, .int s0), (0, .ref (ad 0)), (1, .int x1), (2, .int x2), (3, .int x3), (4, .int x4), (5, .int x5), (6, .int x6), (7, .int x7), (8, .int x8)]) hx hb dX8_isWrongWay_105 hl (by decide) rfl (fun ls hl => ?_)
    refine lv_iload hx hb dX8_isWrongWay_107 (lv_at hl 7 rfl) ?_
    refine z_if_eq (tgt := 119) hx hb dX8_isWrongWay_109 (by decide) (fun c109 => ?_) (fun c109 => ?_)
    · skip
      refine lv_aload_n hx hb dX8_isWrongWay_119 rfl (lv_at hl 1 rfl) ?_
      obtain ⟨v120, v120a, v120b, v120c, v120d, v120e, v120f, v120g, v120h, v120i, v120j, v120k, v120l, v120m, v120n, v120o, e120, h120, h120a, h120b, h120c, h120d, h120e, h120f, h120g, h120h, h120i, h120j, h120k, h120l, h120m, h120n, h120o, h120p, h120q, h120r, h120s, h120t, h120u⟩ := mg_Mo hO
      refine va_get (ci := 8) (C := RX8) (T := TX8) (N := 49) (v := .int v120d) hx hb hts inX8 hown hK hP 0 (zw_at (by decide) e120) rfl 12 (by decide) fl155 (fun _ h => h) rfl dX8_isWrongWay_120 ?_
      exact J123 _ _ x1 x2 x3 x4 x5 x6 x7 x8 s0 v120d hP hS (by omega) (by omega) _ (lv_sub hl [1, 2, 3, 4, 5, 6, 7, 8, 9, 0] rfl)
    · skip
      refine lv_aload_n hx hb dX8_isWrongWay_112 rfl (lv_at hl 1 rfl) ?_
      obtain ⟨v113, v113a, v113b, v113c, v113d, v113e, v113f, v113g, v113h, v113i, v113j, v113k, v113l, v113m, v113n, v113o, e113, h113, h113a, h113b, h113c, h113d, h113e, h113f, h113g, h113h, h113i, h113j, h113k, h113l, h113m, h113n, h113o, h113p, h113q, h113r, h113s, h113t, h113u⟩ := mg_Mo hO
      refine va_get (ci := 8) (C := RX8) (T := TX8) (N := 49) (v := .int v113e) hx hb hts inX8 hown hK hP 0 (zw_at (by decide) e113) rfl 13 (by decide) fl158 (fun _ h => h) rfl dX8_isWrongWay_113 ?_
      refine lv_goto (tgt := 123) hx hb dX8_isWrongWay_116 (by decide) ?_
      exact J123 _ _ x1 x2 x3 x4 x5 x6 x7 x8 s0 v113e hP hS (by omega) (by omega) _ (lv_sub hl [1, 2, 3, 4, 5, 6, 7, 8, 9, 0] rfl)
  have J87 : ∀ (H : Heap) (locs : List Loc) (x1 : Int32) (x2 : Int32) (x3 : Int32) (x4 : Int32) (x5 : Int32) (x6 : Int32) (x7 : Int32) (s0 : Int32), va_P D vwCl (zw 34 ad ce) H → va_S (zA 34 ad) s.heap H locs → (0 ≤ x1.toInt ∧ x1.toInt ≤ 5) → (0 ≤ x6.toInt ∧ x6.toInt ≤ 1) → ∀ ls : Array Slot, lv_has ls 17 [(0, .ref (ad 0)), (1, .int x1), (2, .int x2), (3, .int x3), (4, .int x4), (5, .int x5), (6, .int x6), (7, .int x7)] → W p l e { frames := 1, cells := 0, slots := 0, locals := 20 } s m ([.ref (ad 0), .int p1] : List Value).toArray below meth c H locs 0 0 (MQ below (zQi D 34 ad (fun r ce => (mOK cy ad cnt nd wn S By Ah ce ∧ PP ce) ∧ (0 ≤ r.toInt ∧ r.toInt ≤ 1))) ([.ref (ad 0), .int p1] : List Value).toArray s 0 0 (zA 34 ad)) (F0 m 87 ls [.int s0]) := by
    intro H locs x1 x2 x3 x4 x5 x6 x7 s0 hP hS q_x1 q_x6 ls hl
    refine lv_istore (lv' := [(8, .int s0), (0, .ref (ad 0)), (1, .int x1), (2, .int x2), (3, .int x3), (4, .int x4), (5, .int x5), (6, .int x6), (7, .int x7)]) hx hb dX8_isWrongWay_87 hl (by decide) rfl (fun ls hl => ?_)
    refine lv_iload hx hb dX8_isWrongWay_89 (lv_at hl 7 rfl) ?_
    refine z_if_eq (tgt := 101) hx hb dX8_isWrongWay_91 (by decide) (fun c91 => ?_) (fun c91 => ?_)
    · skip
      refine lv_aload_n hx hb dX8_isWrongWay_101 rfl (lv_at hl 1 rfl) ?_
      obtain ⟨v102, v102a, v102b, v102c, v102d, v102e, v102f, v102g, v102h, v102i, v102j, v102k, v102l, v102m, v102n, v102o, e102, h102, h102a, h102b, h102c, h102d, h102e, h102f, h102g, h102h, h102i, h102j, h102k, h102l, h102m, h102n, h102o, h102p, h102q, h102r, h102s, h102t, h102u⟩ := mg_Mo hO
      refine va_get (ci := 8) (C := RX8) (T := TX8) (N := 49) (v := .int v102g) hx hb hts inX8 hown hK hP 0 (zw_at (by decide) e102) rfl 15 (by decide) fl164 (fun _ h => h) rfl dX8_isWrongWay_102 ?_
      exact J105 _ _ x1 x2 x3 x4 x5 x6 x7 s0 v102g hP hS (by omega) (by omega) _ (lv_sub hl [1, 2, 3, 4, 5, 6, 7, 8, 0] rfl)
    · skip
      refine lv_aload_n hx hb dX8_isWrongWay_94 rfl (lv_at hl 1 rfl) ?_
      obtain ⟨v95, v95a, v95b, v95c, v95d, v95e, v95f, v95g, v95h, v95i, v95j, v95k, v95l, v95m, v95n, v95o, e95, h95, h95a, h95b, h95c, h95d, h95e, h95f, h95g, h95h, h95i, h95j, h95k, h95l, h95m, h95n, h95o, h95p, h95q, h95r, h95s, h95t, h95u⟩ := mg_Mo hO
      refine va_get (ci := 8) (C := RX8) (T := TX8) (N := 49) (v := .int v95f) hx hb hts inX8 hown hK hP 0 (zw_at (by decide) e95) rfl 14 (by decide) fl161 (fun _ h => h) rfl dX8_isWrongWay_95 ?_
      refine lv_goto (tgt := 105) hx hb dX8_isWrongWay_98 (by decide) ?_
      exact J105 _ _ x1 x2 x3 x4 x5 x6 x7 s0 v95f hP hS (by omega) (by omega) _ (lv_sub hl [1, 2, 3, 4, 5, 6, 7, 8, 0] rfl)
  have J69 : ∀ (H : Heap) (locs : List Loc) (x1 : Int32) (x2 : Int32) (x3 : Int32) (x4 : Int32) (x5 : Int32) (x6 : Int32) (s0 : Int32), va_P D vwCl (zw 34 ad ce) H → va_S (zA 34 ad) s.heap H locs → (0 ≤ x1.toInt ∧ x1.toInt ≤ 5) → (0 ≤ x6.toInt ∧ x6.toInt ≤ 1) → ∀ ls : Array Slot, lv_has ls 17 [(0, .ref (ad 0)), (1, .int x1), (2, .int x2), (3, .int x3), (4, .int x4), (5, .int x5), (6, .int x6)] → W p l e { frames := 1, cells := 0, slots := 0, locals := 20 } s m ([.ref (ad 0), .int p1] : List Value).toArray below meth c H locs 0 0 (MQ below (zQi D 34 ad (fun r ce => (mOK cy ad cnt nd wn S By Ah ce ∧ PP ce) ∧ (0 ≤ r.toInt ∧ r.toInt ≤ 1))) ([.ref (ad 0), .int p1] : List Value).toArray s 0 0 (zA 34 ad)) (F0 m 69 ls [.int s0]) := by
    intro H locs x1 x2 x3 x4 x5 x6 s0 hP hS q_x1 q_x6 ls hl
    refine lv_istore (lv' := [(7, .int s0), (0, .ref (ad 0)), (1, .int x1), (2, .int x2), (3, .int x3), (4, .int x4), (5, .int x5), (6, .int x6)]) hx hb dX8_isWrongWay_69 hl (by decide) rfl (fun ls hl => ?_)
    refine lv_iload hx hb dX8_isWrongWay_71 (lv_at hl 7 rfl) ?_
    refine z_if_eq (tgt := 83) hx hb dX8_isWrongWay_73 (by decide) (fun c73 => ?_) (fun c73 => ?_)
    · skip
      refine lv_aload_n hx hb dX8_isWrongWay_83 rfl (lv_at hl 1 rfl) ?_
      obtain ⟨v84, v84a, v84b, v84c, v84d, v84e, v84f, v84g, v84h, v84i, v84j, v84k, v84l, v84m, v84n, v84o, e84, h84, h84a, h84b, h84c, h84d, h84e, h84f, h84g, h84h, h84i, h84j, h84k, h84l, h84m, h84n, h84o, h84p, h84q, h84r, h84s, h84t, h84u⟩ := mg_Mo hO
      refine va_get (ci := 8) (C := RX8) (T := TX8) (N := 49) (v := .int v84e) hx hb hts inX8 hown hK hP 0 (zw_at (by decide) e84) rfl 13 (by decide) fl158 (fun _ h => h) rfl dX8_isWrongWay_84 ?_
      exact J87 _ _ x1 x2 x3 x4 x5 x6 s0 v84e hP hS (by omega) (by omega) _ (lv_sub hl [1, 2, 3, 4, 5, 6, 7, 0] rfl)
    · skip
      refine lv_aload_n hx hb dX8_isWrongWay_76 rfl (lv_at hl 1 rfl) ?_
      obtain ⟨v77, v77a, v77b, v77c, v77d, v77e, v77f, v77g, v77h, v77i, v77j, v77k, v77l, v77m, v77n, v77o, e77, h77, h77a, h77b, h77c, h77d, h77e, h77f, h77g, h77h, h77i, h77j, h77k, h77l, h77m, h77n, h77o, h77p, h77q, h77r, h77s, h77t, h77u⟩ := mg_Mo hO
      refine va_get (ci := 8) (C := RX8) (T := TX8) (N := 49) (v := .int v77d) hx hb hts inX8 hown hK hP 0 (zw_at (by decide) e77) rfl 12 (by decide) fl155 (fun _ h => h) rfl dX8_isWrongWay_77 ?_
      refine lv_goto (tgt := 87) hx hb dX8_isWrongWay_80 (by decide) ?_
      exact J87 _ _ x1 x2 x3 x4 x5 x6 s0 v77d hP hS (by omega) (by omega) _ (lv_sub hl [1, 2, 3, 4, 5, 6, 7, 0] rfl)
  have J57 : ∀ (H : Heap) (locs : List Loc) (x1 : Int32) (x2 : Int32) (x3 : Int32) (x4 : Int32) (x5 : Int32) (s0 : Int32), va_P D vwCl (zw 34 ad ce) H → va_S (zA 34 ad) s.heap H locs → (0 ≤ x1.toInt ∧ x1.toInt ≤ 5) → (0 ≤ s0.toInt ∧ s0.toInt ≤ 1) → ∀ ls : Array Slot, lv_has ls 17 [(0, .ref (ad 0)), (1, .int x1), (2, .int x2), (3, .int x3), (4, .int x4), (5, .int x5)] → W p l e { frames := 1, cells := 0, slots := 0, locals := 20 } s m ([.ref (ad 0), .int p1] : List Value).toArray below meth c H locs 0 0 (MQ below (zQi D 34 ad (fun r ce => (mOK cy ad cnt nd wn S By Ah ce ∧ PP ce) ∧ (0 ≤ r.toInt ∧ r.toInt ≤ 1))) ([.ref (ad 0), .int p1] : List Value).toArray s 0 0 (zA 34 ad)) (F0 m 57 ls [.int s0]) := by
    intro H locs x1 x2 x3 x4 x5 s0 hP hS q_x1 q_s0 ls hl
    refine lv_istore (lv' := [(6, .int s0), (0, .ref (ad 0)), (1, .int x1), (2, .int x2), (3, .int x3), (4, .int x4), (5, .int x5)]) hx hb dX8_isWrongWay_57 hl (by decide) rfl (fun ls hl => ?_)
    refine lv_iload hx hb dX8_isWrongWay_59 (lv_at hl 0 rfl) ?_
    refine z_if_eq (tgt := 68) hx hb dX8_isWrongWay_61 (by decide) (fun c61 => ?_) (fun c61 => ?_)
    · skip
      refine lv_iload_n hx hb dX8_isWrongWay_68 rfl (lv_at hl 4 rfl) ?_
      exact J69 _ _ x1 x2 x3 x4 x5 s0 x3 hP hS (by omega) (by omega) _ (lv_sub hl [1, 2, 3, 4, 5, 6, 0] rfl)
    · skip
      refine lv_iload_n hx hb dX8_isWrongWay_64 rfl (lv_at hl 3 rfl) ?_
      refine lv_goto (tgt := 69) hx hb dX8_isWrongWay_65 (by decide) ?_
      exact J69 _ _ x1 x2 x3 x4 x5 s0 x2 hP hS (by omega) (by omega) _ (lv_sub hl [1, 2, 3, 4, 5, 6, 0] rfl)
  intro ls hl
  have hl : lv_has ls 17 [(0, .ref (ad 0)), (1, .int p1)] := hl
  refine lv_aload_n hx hb dX8_isWrongWay_0 rfl (lv_at hl 0 rfl) ?_
  obtain ⟨v1, v1a, v1b, v1c, v1d, v1e, v1f, v1g, v1h, v1i, v1j, v1k, v1l, v1m, v1n, v1o, e1, h1, h1a, h1b, h1c, h1d, h1e, h1f, h1g, h1h, h1i, h1j, h1k, h1l, h1m, h1n, h1o, h1p, h1q, h1r, h1s, h1t, h1u⟩ := mg_Mo hO
  refine va_get (ci := 8) (C := RX8) (T := TX8) (N := 49) (v := .ref (ad 6)) hx hb hts inX8 hown hK hP 0 (zw_at (by decide) e1) rfl 8 (by decide) fl26 (fun _ h => h) rfl dX8_isWrongWay_1 ?_
  refine z_ic hx hb dX8_isWrongWay_4 (by decide) (fun v4 h4 => ?_)
  refine lv_iload_n hx hb dX8_isWrongWay_5 rfl (lv_at hl 1 rfl) ?_
  refine z_mulJ hx hb 5 dX8_isWrongWay_6 (by omega) (by omega) (fun v6 h6 => ?_)
  refine z_ic hx hb dX8_isWrongWay_7 (by decide) (fun v7 h7 => ?_)
  refine z_addE hx hb dX8_isWrongWay_8 (by omega) (fun v8 h8 => ?_)
  obtain ⟨f9, e9⟩ := mg_Lg hO
  refine z_iald hx hb hK hP (q0 := 6) 0 (by decide) e9 rfl (by omega) dX8_isWrongWay_9 (fun v9 h9a => ?_)
  refine lv_istore_n (lv' := [(2, .int v9), (0, .ref (ad 0)), (1, .int p1)]) hx hb dX8_isWrongWay_10 rfl hl (by decide) rfl (fun ls hl => ?_)
  refine lv_aload_n hx hb dX8_isWrongWay_11 rfl (lv_at hl 1 rfl) ?_
  refine va_get (ci := 8) (C := RX8) (T := TX8) (N := 49) (v := .ref (ad 6)) hx hb hts inX8 hown hK hP 0 (zw_at (by decide) e1) rfl 8 (by decide) fl26 (fun _ h => h) rfl dX8_isWrongWay_12 ?_
  refine z_ic hx hb dX8_isWrongWay_15 (by decide) (fun v15 h15 => ?_)
  refine lv_iload_n hx hb dX8_isWrongWay_16 rfl (lv_at hl 2 rfl) ?_
  refine z_mulJ hx hb 5 dX8_isWrongWay_17 (by omega) (by omega) (fun v17 h17 => ?_)
  refine z_ic hx hb dX8_isWrongWay_18 (by decide) (fun v18 h18 => ?_)
  refine z_addE hx hb dX8_isWrongWay_19 (by omega) (fun v19 h19 => ?_)
  refine z_iald hx hb hK hP (q0 := 6) 0 (by decide) e9 rfl (by omega) dX8_isWrongWay_20 (fun v20 h20 => ?_)
  refine lv_istore_n (lv' := [(3, .int v20), (2, .int v9), (0, .ref (ad 0)), (1, .int p1)]) hx hb dX8_isWrongWay_21 rfl hl (by decide) rfl (fun ls hl => ?_)
  refine lv_aload_n hx hb dX8_isWrongWay_22 rfl (lv_at hl 2 rfl) ?_
  refine va_get (ci := 8) (C := RX8) (T := TX8) (N := 49) (v := .ref (ad 6)) hx hb hts inX8 hown hK hP 0 (zw_at (by decide) e1) rfl 8 (by decide) fl26 (fun _ h => h) rfl dX8_isWrongWay_23 ?_
  refine z_ic hx hb dX8_isWrongWay_26 (by decide) (fun v26 h26 => ?_)
  refine lv_iload_n hx hb dX8_isWrongWay_27 rfl (lv_at hl 3 rfl) ?_
  refine z_mulJ hx hb 5 dX8_isWrongWay_28 (by omega) (by omega) (fun v28 h28 => ?_)
  refine z_ic hx hb dX8_isWrongWay_29 (by decide) (fun v29 h29 => ?_)
  refine z_addE hx hb dX8_isWrongWay_30 (by omega) (fun v30 h30 => ?_)
  refine z_iald hx hb hK hP (q0 := 6) 0 (by decide) e9 rfl (by omega) dX8_isWrongWay_31 (fun v31 h31 => ?_)
  refine lv_istore (lv' := [(4, .int v31), (3, .int v20), (2, .int v9), (0, .ref (ad 0)), (1, .int p1)]) hx hb dX8_isWrongWay_32 hl (by decide) rfl (fun ls hl => ?_)
  refine lv_aload_n hx hb dX8_isWrongWay_34 rfl (lv_at hl 3 rfl) ?_
  refine va_get (ci := 8) (C := RX8) (T := TX8) (N := 49) (v := .ref (ad 6)) hx hb hts inX8 hown hK hP 0 (zw_at (by decide) e1) rfl 8 (by decide) fl26 (fun _ h => h) rfl dX8_isWrongWay_35 ?_
  refine z_ic hx hb dX8_isWrongWay_38 (by decide) (fun v38 h38 => ?_)
  refine lv_iload_n hx hb dX8_isWrongWay_39 rfl (lv_at hl 4 rfl) ?_
  refine z_mulJ hx hb 5 dX8_isWrongWay_40 (by omega) (by omega) (fun v40 h40 => ?_)
  refine z_ic hx hb dX8_isWrongWay_41 (by decide) (fun v41 h41 => ?_)
  refine z_addE hx hb dX8_isWrongWay_42 (by omega) (fun v42 h42 => ?_)
  refine z_iald hx hb hK hP (q0 := 6) 0 (by decide) e9 rfl (by omega) dX8_isWrongWay_43 (fun v43 h43 => ?_)
  refine lv_istore (lv' := [(5, .int v43), (4, .int v31), (3, .int v20), (2, .int v9), (0, .ref (ad 0)), (1, .int p1)]) hx hb dX8_isWrongWay_44 hl (by decide) rfl (fun ls hl => ?_)
  refine lv_iload_n hx hb dX8_isWrongWay_46 rfl (lv_at hl 3 rfl) ?_
  refine lv_iload hx hb dX8_isWrongWay_47 (lv_at hl 1 rfl) ?_
  refine z_icmp_ne (tgt := 56) hx hb dX8_isWrongWay_49 (by decide) (fun c49 => ?_) (fun c49 => ?_)
  · skip
    refine z_ic hx hb dX8_isWrongWay_56 (by decide) (fun v56 h56 => ?_)
    exact J57 _ _ p1 v9 v20 v31 v43 v56 hP hS (by omega) (by omega) _ (lv_sub hl [4, 5, 3, 2, 1, 0] rfl)
  · skip
    refine z_ic hx hb dX8_isWrongWay_52 (by decide) (fun v52 h52 => ?_)
    refine lv_goto (tgt := 57) hx hb dX8_isWrongWay_53 (by decide) ?_
    exact J57 _ _ p1 v9 v20 v31 v43 v52 hP hS (by omega) (by omega) _ (lv_sub hl [4, 5, 3, 2, 1, 0] rfl)
set_option maxHeartbeats 8000000 in
set_option maxRecDepth 100000 in
theorem c_X8_seen (l : Launch) (D : va_G) (cy : Nat → ClassId) (ad : Nat → Nat) (cnt : Nat → Nat) (nd : Nat) (wn : Nat) (S : Nat → Int32) (By : Nat → Int32) (Ah : Nat → Int32) (hJ : zJ 34 ad) (p1 : Int32) (p2 : Int32) (p3 : Int32) (p4 : Int32) (p5 : Int32) : zM l D (mT cy) 34 ad (mOK cy ad cnt nd wn S By Ah) yX8_seen vsX8_seen { frames := 4, cells := 0, slots := 0, locals := 99 } ([.ref (ad 0), .int p1, .int p2, .int p3, .int p4, .int p5] : List Value) (zQi D 34 ad (fun r ce => mOK cy ad cnt nd wn S By Ah ce ∧ (True))) := by
  refine z_of (cc := cX8_seen) (maxL := 7) (ret := (some .int)) (by decide) rfl (Nat.le_of_ble_eq_true rfl) ?_
  intro p e s m below meth c hx hb hr hts hown hlocks hml hK hN ce hOK hP
  have hown : s.vm.findClass RX8 = some m.cls := hown
  have hS : va_S (zA 34 ad) s.heap s.heap [] := va_S.rf
  have hO := hOK
  have inX8 : ∀ w ∈ u_ws RX8 TX8 49, w ∈ vsX8_seen := fun w h => List.mem_cons_of_mem _ (inlX8 w h)
  have fl20 := hts (.fieldLink RX8 20 "GroundKeeperModel" "door" "[I") (List.mem_cons_of_mem _ mw_346)
  have fl23 := hts (.fieldLink RX8 23 "GroundKeeperModel" "isShut" "[Z") (List.mem_cons_of_mem _ mw_347)
  have fl26 := hts (.fieldLink RX8 26 "GroundKeeperModel" "ledge" "[I") (List.mem_cons_of_mem _ mw_344)
  have fl135 := hts (.fieldLink RX8 135 "GroundKeeperModel" "doors" "I") (List.mem_cons_of_mem _ mw_348)
  have fl142 := hts (.fieldLink RX8 142 "GroundKeeperModel" "ledges" "I") (List.mem_cons_of_mem _ mw_349)
  have L80 : ∀ N80 : Nat, ∀ (H : Heap) (locs : List Loc) (ce : Nat → va_E) (x1 : Int32) (x6 : Int32), va_P D vwCl (zw 34 ad ce) H → va_S (zA 34 ad) s.heap H locs → mOK cy ad cnt nd wn S By Ah ce → (0 ≤ x6.toInt ∧ x6.toInt ≤ 6) → (7 - x6.toInt ≤ (N80 : Int)) → ∀ ls : Array Slot, lv_has ls 7 [(0, .ref (ad 0)), (1, .int x1), (6, .int x6)] → W p l e { frames := 4, cells := 0, slots := 0, locals := 99 } s m ([.ref (ad 0), .int p1, .int p2, .int p3, .int p4, .int p5] : List Value).toArray below meth c H locs 0 0 (MQ below (zQi D 34 ad (fun r ce => mOK cy ad cnt nd wn S By Ah ce ∧ (True))) ([.ref (ad 0), .int p1, .int p2, .int p3, .int p4, .int p5] : List Value).toArray s 0 0 (zA 34 ad)) (F0 m 80 ls []) := by
    intro N80
    induction N80 with
    | zero =>
      intro H locs ce x1 x6 hP hS hO q_x6 hm ls hl
      exfalso; omega
    | succ N80 ih80 =>
      have J114 : ∀ (H : Heap) (locs : List Loc) (ce : Nat → va_E) (x1 : Int32) (x6 : Int32), va_P D vwCl (zw 34 ad ce) H → va_S (zA 34 ad) s.heap H locs → mOK cy ad cnt nd wn S By Ah ce → (0 ≤ x6.toInt ∧ x6.toInt ≤ 5) → (7 - x6.toInt ≤ (N80 : Int) + 1) → ∀ ls : Array Slot, lv_has ls 7 [(0, .ref (ad 0)), (1, .int x1), (6, .int x6)] → W p l e { frames := 4, cells := 0, slots := 0, locals := 99 } s m ([.ref (ad 0), .int p1, .int p2, .int p3, .int p4, .int p5] : List Value).toArray below meth c H locs 0 0 (MQ below (zQi D 34 ad (fun r ce => mOK cy ad cnt nd wn S By Ah ce ∧ (True))) ([.ref (ad 0), .int p1, .int p2, .int p3, .int p4, .int p5] : List Value).toArray s 0 0 (zA 34 ad)) (F0 m 114 ls []) := by
        intro H locs ce x1 x6 hP hS hO q_x6 qm80 ls hl
        refine z_iinc (lv' := fun w0 => [(6, .int w0), (0, .ref (ad 0)), (1, .int x1)]) hx hb dX8_seen_114 hl (k := 2) rfl (by decide) (fun _ => rfl) (by decide) (by omega) (fun v114 ls h114 hl => ?_)
        refine lv_goto (tgt := 80) hx hb dX8_seen_117 (by decide) ?_
        exact ih80 _ _ _ x1 v114 hP hS hO (by omega) (by omega) _ (lv_sub hl [1, 2, 0] rfl)
      intro H locs ce x1 x6 hP hS hO q_x6 hm ls hl
      refine lv_iload hx hb dX8_seen_80 (lv_at hl 2 rfl) ?_
      refine lv_aload_n hx hb dX8_seen_82 rfl (lv_at hl 0 rfl) ?_
      obtain ⟨v83, v83a, v83b, v83c, v83d, v83e, v83f, v83g, v83h, v83i, v83j, v83k, v83l, v83m, v83n, v83o, e83, h83, h83a, h83b, h83c, h83d, h83e, h83f, h83g, h83h, h83i, h83j, h83k, h83l, h83m, h83n, h83o, h83p, h83q, h83r, h83s, h83t, h83u⟩ := mg_Mo hO
      refine va_get (ci := 8) (C := RX8) (T := TX8) (N := 49) (v := .int v83b) hx hb hts inX8 hown hK hP 0 (zw_at (by decide) e83) rfl 7 (by decide) fl142 (fun _ h => h) rfl dX8_seen_83 ?_
      refine z_icmp_ge (tgt := 120) hx hb dX8_seen_86 (by decide) (fun c86 => ?_) (fun c86 => ?_)
      · skip
        refine z_ic hx hb dX8_seen_120 (by decide) (fun v120 h120 => ?_)
        exact z_reti hx hb hr hlocks hP hS dX8_seen_121 ⟨hO, trivial⟩
      · skip
        refine lv_aload_n hx hb dX8_seen_89 rfl (lv_at hl 0 rfl) ?_
        refine va_get (ci := 8) (C := RX8) (T := TX8) (N := 49) (v := .ref (ad 6)) hx hb hts inX8 hown hK hP 0 (zw_at (by decide) e83) rfl 8 (by decide) fl26 (fun _ h => h) rfl dX8_seen_90 ?_
        refine z_ic hx hb dX8_seen_93 (by decide) (fun v93 h93 => ?_)
        refine lv_iload hx hb dX8_seen_94 (lv_at hl 2 rfl) ?_
        refine z_mulJ hx hb 5 dX8_seen_96 (by omega) (by omega) (fun v96 h96 => ?_)
        obtain ⟨f97, e97⟩ := mg_Lg hO
        refine z_iald hx hb hK hP (q0 := 6) 0 (by decide) e97 rfl (by omega) dX8_seen_97 (fun v97 h97a => ?_)
        refine lv_iload_n hx hb dX8_seen_98 rfl (lv_at hl 1 rfl) ?_
        refine z_icmp_ne (tgt := 114) hx hb dX8_seen_99 (by decide) (fun c99 => ?_) (fun c99 => ?_)
        · skip
          exact J114 _ _ _ x1 x6 hP hS hO (by omega) (by omega) _ (lv_sub hl [0, 1, 2] rfl)
        · skip
          refine lv_aload_n hx hb dX8_seen_102 rfl (lv_at hl 0 rfl) ?_
          refine lv_iload hx hb dX8_seen_103 (lv_at hl 2 rfl) ?_
          refine z_ciP (z_rV (q0 := 0) (As := [.int x6]) (rest := []) ⟨hx, hb, hml, hown, hts⟩ (c_X8_isWrongWay l D cy ad cnt nd wn S By Ah (fun c1 => c1 = ce) hJ x6 (by omega)) (cwV 1 hts (g_V mw_365 mw_366 mw_367 mw_324 mw_368) rfl rfl rfl (by decide +kernel) ⟨Nat.le_of_ble_eq_true rfl, Nat.le_of_ble_eq_true rfl⟩) hK hN ⟨hO, rfl⟩ hP (by decide) e83 rfl rfl hl.1 rfl (Nat.le_of_ble_eq_true rfl) dX8_seen_105 ⟨Nat.zero_le _, Nat.zero_le _⟩) hS (fun _ h => h.2) (fun v105 H locs h105 hP hS => ?_)
          refine z_if_eq (tgt := 114) hx hb dX8_seen_108 (by decide) (fun c108 => ?_) (fun c108 => ?_)
          · skip
            exact J114 _ _ _ x1 x6 hP hS hO (by omega) (by omega) _ (lv_sub hl [0, 1, 2] rfl)
          · skip
            refine z_bi hx hb dX8_seen_111 (by decide) (fun v111 h111 => ?_)
            exact z_reti hx hb hr hlocks hP hS dX8_seen_113 ⟨hO, trivial⟩
  have L23 : ∀ N23 : Nat, ∀ (H : Heap) (locs : List Loc) (ce : Nat → va_E) (x1 : Int32) (x6 : Int32), va_P D vwCl (zw 34 ad ce) H → va_S (zA 34 ad) s.heap H locs → mOK cy ad cnt nd wn S By Ah ce → (0 ≤ x6.toInt ∧ x6.toInt ≤ 6) → (7 - x6.toInt ≤ (N23 : Int)) → ∀ ls : Array Slot, lv_has ls 7 [(0, .ref (ad 0)), (1, .int x1), (6, .int x6)] → W p l e { frames := 4, cells := 0, slots := 0, locals := 99 } s m ([.ref (ad 0), .int p1, .int p2, .int p3, .int p4, .int p5] : List Value).toArray below meth c H locs 0 0 (MQ below (zQi D 34 ad (fun r ce => mOK cy ad cnt nd wn S By Ah ce ∧ (True))) ([.ref (ad 0), .int p1, .int p2, .int p3, .int p4, .int p5] : List Value).toArray s 0 0 (zA 34 ad)) (F0 m 23 ls []) := by
    intro N23
    induction N23 with
    | zero =>
      intro H locs ce x1 x6 hP hS hO q_x6 hm ls hl
      exfalso; omega
    | succ N23 ih23 =>
      have J71 : ∀ (H : Heap) (locs : List Loc) (ce : Nat → va_E) (x1 : Int32) (x6 : Int32), va_P D vwCl (zw 34 ad ce) H → va_S (zA 34 ad) s.heap H locs → mOK cy ad cnt nd wn S By Ah ce → (0 ≤ x6.toInt ∧ x6.toInt ≤ 5) → (7 - x6.toInt ≤ (N23 : Int) + 1) → ∀ ls : Array Slot, lv_has ls 7 [(0, .ref (ad 0)), (1, .int x1), (6, .int x6)] → W p l e { frames := 4, cells := 0, slots := 0, locals := 99 } s m ([.ref (ad 0), .int p1, .int p2, .int p3, .int p4, .int p5] : List Value).toArray below meth c H locs 0 0 (MQ below (zQi D 34 ad (fun r ce => mOK cy ad cnt nd wn S By Ah ce ∧ (True))) ([.ref (ad 0), .int p1, .int p2, .int p3, .int p4, .int p5] : List Value).toArray s 0 0 (zA 34 ad)) (F0 m 71 ls []) := by
        intro H locs ce x1 x6 hP hS hO q_x6 qm23 ls hl
        refine z_iinc (lv' := fun w0 => [(6, .int w0), (0, .ref (ad 0)), (1, .int x1)]) hx hb dX8_seen_71 hl (k := 2) rfl (by decide) (fun _ => rfl) (by decide) (by omega) (fun v71 ls h71 hl => ?_)
        refine lv_goto (tgt := 23) hx hb dX8_seen_74 (by decide) ?_
        exact ih23 _ _ _ x1 v71 hP hS hO (by omega) (by omega) _ (lv_sub hl [1, 2, 0] rfl)
      intro H locs ce x1 x6 hP hS hO q_x6 hm ls hl
      refine lv_iload hx hb dX8_seen_23 (lv_at hl 2 rfl) ?_
      refine lv_aload_n hx hb dX8_seen_25 rfl (lv_at hl 0 rfl) ?_
      obtain ⟨v26, v26a, v26b, v26c, v26d, v26e, v26f, v26g, v26h, v26i, v26j, v26k, v26l, v26m, v26n, v26o, e26, h26, h26a, h26b, h26c, h26d, h26e, h26f, h26g, h26h, h26i, h26j, h26k, h26l, h26m, h26n, h26o, h26p, h26q, h26r, h26s, h26t, h26u⟩ := mg_Mo hO
      refine va_get (ci := 8) (C := RX8) (T := TX8) (N := 49) (v := .int v26a) hx hb hts inX8 hown hK hP 0 (zw_at (by decide) e26) rfl 4 (by decide) fl135 (fun _ h => h) rfl dX8_seen_26 ?_
      refine z_icmp_ge (tgt := 77) hx hb dX8_seen_29 (by decide) (fun c29 => ?_) (fun c29 => ?_)
      · skip
        refine z_ic hx hb dX8_seen_77 (by decide) (fun v77 h77 => ?_)
        refine lv_istore (lv' := [(6, .int v77), (0, .ref (ad 0)), (1, .int x1)]) hx hb dX8_seen_78 hl (by decide) rfl (fun ls hl => ?_)
        exact L80 8 _ _ _ x1 v77 hP hS hO (by omega) (by omega) _ (lv_sub hl [1, 2, 0] rfl)
      · skip
        refine lv_aload_n hx hb dX8_seen_32 rfl (lv_at hl 0 rfl) ?_
        refine va_get (ci := 8) (C := RX8) (T := TX8) (N := 49) (v := .ref (ad 5)) hx hb hts inX8 hown hK hP 0 (zw_at (by decide) e26) rfl 6 (by decide) fl23 (fun _ h => h) rfl dX8_seen_33 ?_
        refine lv_iload hx hb dX8_seen_36 (lv_at hl 2 rfl) ?_
        obtain ⟨f38, e38⟩ := mg_Sh hO
        refine z_zald hx hb hK hP (q0 := 5) 1 (by decide) e38 rfl (by omega) dX8_seen_38 (fun v38 h38a => ?_)
        refine z_if_eq (tgt := 71) hx hb dX8_seen_39 (by decide) (fun c39 => ?_) (fun c39 => ?_)
        · skip
          exact J71 _ _ _ x1 x6 hP hS hO (by omega) (by omega) _ (lv_sub hl [0, 1, 2] rfl)
        · skip
          refine lv_aload_n hx hb dX8_seen_42 rfl (lv_at hl 0 rfl) ?_
          refine va_get (ci := 8) (C := RX8) (T := TX8) (N := 49) (v := .ref (ad 4)) hx hb hts inX8 hown hK hP 0 (zw_at (by decide) e26) rfl 5 (by decide) fl20 (fun _ h => h) rfl dX8_seen_43 ?_
          refine z_ic hx hb dX8_seen_46 (by decide) (fun v46 h46 => ?_)
          refine lv_iload hx hb dX8_seen_47 (lv_at hl 2 rfl) ?_
          refine z_mulJ hx hb 5 dX8_seen_49 (by omega) (by omega) (fun v49 h49 => ?_)
          obtain ⟨f50, e50⟩ := mg_Dr hO
          refine z_iald hx hb hK hP (q0 := 4) 0 (by decide) e50 rfl (by omega) dX8_seen_50 (fun v50 h50a => ?_)
          refine lv_iload_n hx hb dX8_seen_51 rfl (lv_at hl 1 rfl) ?_
          refine z_icmp_ne (tgt := 71) hx hb dX8_seen_52 (by decide) (fun c52 => ?_) (fun c52 => ?_)
          · skip
            exact J71 _ _ _ x1 x6 hP hS hO (by omega) (by omega) _ (lv_sub hl [0, 1, 2] rfl)
          · skip
            refine lv_aload_n hx hb dX8_seen_55 rfl (lv_at hl 0 rfl) ?_
            refine lv_aload_n hx hb dX8_seen_56 rfl (lv_at hl 0 rfl) ?_
            refine va_get (ci := 8) (C := RX8) (T := TX8) (N := 49) (v := .ref (ad 4)) hx hb hts inX8 hown hK hP 0 (zw_at (by decide) e26) rfl 5 (by decide) fl20 (fun _ h => h) rfl dX8_seen_57 ?_
            refine lv_iload hx hb dX8_seen_60 (lv_at hl 2 rfl) ?_
            refine z_ci (z_rV (q0 := 0) (As := [.ref (ad 4), .int x6]) (rest := []) ⟨hx, hb, hml, hown, hts⟩ (c_X8_meets_Dr l D cy ad cnt nd wn S By Ah hJ x6 (by omega)) (cwV 2 hts (g_V mw_361 mw_362 mw_363 mw_324 mw_364) rfl rfl rfl (by decide +kernel) ⟨Nat.le_of_ble_eq_true rfl, Nat.le_of_ble_eq_true rfl⟩) hK hN hO hP (by decide) e26 rfl rfl hl.1 rfl (Nat.le_of_ble_eq_true rfl) dX8_seen_62 ⟨Nat.zero_le _, Nat.zero_le _⟩) hS (fun v62 ce H locs h62 hP hS => ?_)
            obtain ⟨hO, h62a⟩ := h62
            refine z_if_eq (tgt := 71) hx hb dX8_seen_65 (by decide) (fun c65 => ?_) (fun c65 => ?_)
            · skip
              exact J71 _ _ _ x1 x6 hP hS hO (by omega) (by omega) _ (lv_sub hl [0, 1, 2] rfl)
            · skip
              refine z_bi hx hb dX8_seen_68 (by decide) (fun v68 h68 => ?_)
              exact z_reti hx hb hr hlocks hP hS dX8_seen_70 ⟨hO, trivial⟩
  intro ls hl
  have hl : lv_has ls 7 [(0, .ref (ad 0)), (1, .int p1), (2, .int p2), (3, .int p3), (4, .int p4), (5, .int p5)] := hl
  refine lv_aload_n hx hb dX8_seen_0 rfl (lv_at hl 0 rfl) ?_
  refine lv_iload_n hx hb dX8_seen_1 rfl (lv_at hl 2 rfl) ?_
  refine lv_iload_n hx hb dX8_seen_2 rfl (lv_at hl 3 rfl) ?_
  refine lv_iload hx hb dX8_seen_3 (lv_at hl 4 rfl) ?_
  refine lv_iload hx hb dX8_seen_5 (lv_at hl 5 rfl) ?_
  obtain ⟨v7, v7a, v7b, v7c, v7d, v7e, v7f, v7g, v7h, v7i, v7j, v7k, v7l, v7m, v7n, v7o, e7, h7, h7a, h7b, h7c, h7d, h7e, h7f, h7g, h7h, h7i, h7j, h7k, h7l, h7m, h7n, h7o, h7p, h7q, h7r, h7s, h7t, h7u⟩ := mg_Mo hO
  refine z_cv (z_rV (q0 := 0) (As := [.int p2, .int p3, .int p4, .int p5]) (rest := []) ⟨hx, hb, hml, hown, hts⟩ (c_X8_leg l D cy ad cnt nd wn S By Ah hJ p2 p3 p4 p5) (cwV 4 hts (g_V mw_369 mw_370 mw_371 mw_324 mw_372) rfl rfl rfl (by decide +kernel) ⟨Nat.le_of_ble_eq_true rfl, Nat.le_of_ble_eq_true rfl⟩) hK hN hO hP (by decide) e7 rfl rfl hl.1 rfl (Nat.le_of_ble_eq_true rfl) dX8_seen_7 ⟨Nat.zero_le _, Nat.zero_le _⟩) hS (fun ce H locs h7v hP hS => ?_)
  obtain ⟨hO, h7w⟩ := h7v
  refine lv_aload_n hx hb dX8_seen_10 rfl (lv_at hl 0 rfl) ?_
  refine lv_iload_n hx hb dX8_seen_11 rfl (lv_at hl 1 rfl) ?_
  obtain ⟨v12, v12a, v12b, v12c, v12d, v12e, v12f, v12g, v12h, v12i, v12j, v12k, v12l, v12m, v12n, v12o, e12, h12, h12a, h12b, h12c, h12d, h12e, h12f, h12g, h12h, h12i, h12j, h12k, h12l, h12m, h12n, h12o, h12p, h12q, h12r, h12s, h12t, h12u⟩ := mg_Mo hO
  refine z_ci (z_rV (q0 := 0) (As := [.int p1]) (rest := []) ⟨hx, hb, hml, hown, hts⟩ (c_X8_isAllGround l D cy ad cnt nd wn S By Ah hJ p1) (cwV 1 hts (g_V mw_373 mw_374 mw_375 mw_324 mw_376) rfl rfl rfl (by decide +kernel) ⟨Nat.le_of_ble_eq_true rfl, Nat.le_of_ble_eq_true rfl⟩) hK hN hO hP (by decide) e12 rfl rfl hl.1 rfl (Nat.le_of_ble_eq_true rfl) dX8_seen_12 ⟨Nat.zero_le _, Nat.zero_le _⟩) hS (fun v12p ce H locs h12v hP hS => ?_)
  obtain ⟨hO, h12w⟩ := h12v
  refine z_if_ne (tgt := 20) hx hb dX8_seen_15 (by decide) (fun c15 => ?_) (fun c15 => ?_)
  · skip
    refine z_ic hx hb dX8_seen_20 (by decide) (fun v20 h20 => ?_)
    refine lv_istore (lv' := [(6, .int v20), (0, .ref (ad 0)), (1, .int p1), (2, .int p2), (3, .int p3), (4, .int p4), (5, .int p5)]) hx hb dX8_seen_21 hl (by decide) rfl (fun ls hl => ?_)
    exact L23 8 _ _ _ p1 v20 hP hS hO (by omega) (by omega) _ (lv_sub hl [1, 2, 0] rfl)
  · skip
    refine z_ic hx hb dX8_seen_18 (by decide) (fun v18 h18 => ?_)
    exact z_reti hx hb hr hlocks hP hS dX8_seen_19 ⟨hO, trivial⟩
